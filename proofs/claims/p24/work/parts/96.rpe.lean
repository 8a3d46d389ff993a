/-! methods, printed by wip/tools/vcg.py -/
/-- LoopGroundModel isTrue -/
abbrev S_252v  : mS := [(269, 269, 0, 17), (244, 244, 0, 18), (243, 243, 0, 17), (225, 225, 36, 36), (225, 225, 37, 37), (245, 245, 0, 17999), (225, 225, 38, 38), (225, 225, 39, 39), (225, 225, 40, 40), (225, 225, 42, 42), (246, 246, 0, 17999), (273, 273, 0, 17), (270, 270, 0, 17)]
abbrev E_252v  (z0 w0 : mZ) (x y tx it mt tt ct : Option Nat) : Int → mZ → mZ → mP → Prop := fun v z w p => p = (pq x y tx it mt tt ct) ∧ 0 ≤ v ∧ v ≤ 1 ∧ (w 270 = w0 270)
theorem m_252v {d : Nat} {z0 w0 : mZ} {x y tx it mt tt ct : Option Nat}  (hz : rz z0) (hw : rw_ w0) (hrv : RV z0 w0) (hq : z0 225 77 + z0 225 76 ≤ 1600) : wc (d + 7) 252 [.ref 225] (mk z0 w0 (pq x y tx it mt tt ct)) (poI S_252v z0 w0 (E_252v  z0 w0 x y tx it mt tt ct)) := by
  have hst : st_ S_252v z0 w0 z0 w0 := st_rf hz hw
  have hz91 := rd_225_76 hz
  have hz92 := rd_225_77 hz
  have h18 := rE18 hz
  have h76 := rd_225_76 hz
  have h77 := rd_225_77 hz
  have key : ∀ N : Nat, (∀ (x1 : Int) (z w : mZ), 0 ≤ x1 ∧ x1 ≤ 18 → 1 ≤ z0 225 76 ∧ z0 225 76 ≤ 1600 → st_ S_252v z0 w0 z w → z 225 36 = z0 225 36 → z 225 37 = z0 225 37 → z 225 38 = z0 225 38 → z 225 39 = z0 225 39 → z 225 40 = z0 225 40 → z 225 42 = z0 225 42 → (∀ j : Nat, (j : Int) < x1 → z 269 j = 0) → (w 270 = w0 270) → 136 * (18 - x1) + 441312 < (N : Int) → wp_ (d + 6) 252 4 (some .boolean) (11, [(0, .ref 225), (1, .int (Int32.ofInt x1))], [], mk z w (pq x y tx it mt tt ct)) (poI S_252v z0 w0 (E_252v  z0 w0 x y tx it mt tt ct))) ∧ (∀ (x1 : Int) (z w : mZ), 0 ≤ x1 ∧ x1 ≤ 1600 → 1 ≤ z0 225 76 ∧ z0 225 76 ≤ 1600 → st_ S_252v z0 w0 z w → z 225 36 = z0 225 36 → z 225 37 = z0 225 37 → z 225 38 = z0 225 38 → z 225 39 = z0 225 39 → z 225 40 = z0 225 40 → z 225 42 = z0 225 42 → (sm (z 269) 18 = x1) → (x1 ≤ z0 225 76) → (w 270 = w0 270) → 136 * (1600 - x1) + 223428 < (N : Int) → wp_ (d + 6) 252 4 (some .boolean) (32, [(0, .ref 225), (1, .int (Int32.ofInt x1))], [], mk z w (pq x y tx it mt tt ct)) (poI S_252v z0 w0 (E_252v  z0 w0 x y tx it mt tt ct))) ∧ (∀ (x1 : Int) (z w : mZ), 0 ≤ x1 ∧ x1 ≤ 18 → 1 ≤ z0 225 76 ∧ z0 225 76 ≤ 1600 → st_ S_252v z0 w0 z w → z 225 36 = z0 225 36 → z 225 37 = z0 225 37 → z 225 38 = z0 225 38 → z 225 39 = z0 225 39 → z 225 40 = z0 225 40 → z 225 42 = z0 225 42 → (FTw z0 (z 269) ∧ sm (z 269) 18 ≤ 1600) → (∀ e : Nat, (e : Int) < x1 → w 270 e = z 269 e ∧ w 273 e = w0 270 e) → (∀ e : Nat, x1 ≤ (e : Int) → w 270 e = w0 270 e) → 136 * (18 - x1) + 220678 < (N : Int) → wp_ (d + 6) 252 4 (some .boolean) (82, [(0, .ref 225), (1, .int (Int32.ofInt x1))], [], mk z w (pq x y tx it mt tt ct)) (poI S_252v z0 w0 (E_252v  z0 w0 x y tx it mt tt ct))) ∧ (∀ (x1 x2 : Int) (z w : mZ), 0 ≤ x1 ∧ x1 ≤ 1 → 0 ≤ x2 ∧ x2 ≤ 18 → 1 ≤ z0 225 76 ∧ z0 225 76 ≤ 1600 → st_ S_252v z0 w0 z w → (∀ e : Nat, e < 18 → w 273 e = w0 270 e) → (∀ e : Nat, (e : Int) < x2 → w 270 e = w0 270 e) → 136 * (18 - x2) + 217925 < (N : Int) → wp_ (d + 6) 252 4 (some .boolean) (136, [(0, .ref 225), (1, .int (Int32.ofInt x1)), (2, .int (Int32.ofInt x2))], [], mk z w (pq x y tx it mt tt ct)) (poI S_252v z0 w0 (E_252v  z0 w0 x y tx it mt tt ct))) ∧ (∀ (z w : mZ), 1 ≤ z0 225 76 ∧ z0 225 76 ≤ 1600 → st_ S_252v z0 w0 z w → (w 270 = w0 270) → 217903 < (N : Int) → wp_ (d + 6) 252 4 (some .boolean) (179, [(0, .ref 225)], [], mk z w (pq x y tx it mt tt ct)) (poI S_252v z0 w0 (E_252v  z0 w0 x y tx it mt tt ct))) ∧ (∀ (x1 x2 x3 : Int) (z w : mZ), 0 ≤ x1 ∧ x1 ≤ 1 → 0 ≤ x2 ∧ x2 ≤ 1 → 0 ≤ x3 ∧ x3 ≤ 1600 → 1 ≤ z0 225 76 ∧ z0 225 76 ≤ 1600 → st_ S_252v z0 w0 z w → (w 270 = w0 270) → (x3 ≤ z0 225 76) → 136 * (1600 - x3) + 25 < (N : Int) → wp_ (d + 6) 252 4 (some .boolean) (185, [(0, .ref 225), (1, .int (Int32.ofInt x1)), (2, .int (Int32.ofInt x2)), (3, .int (Int32.ofInt x3))], [], mk z w (pq x y tx it mt tt ct)) (poI S_252v z0 w0 (E_252v  z0 w0 x y tx it mt tt ct))) ∧ (∀ (x1 x3 : Int) (z w : mZ), 0 ≤ x1 ∧ x1 ≤ 1 → 0 ≤ x3 ∧ x3 ≤ 1599 → 1 ≤ z0 225 76 ∧ z0 225 76 ≤ 1600 → st_ S_252v z0 w0 z w → (w 270 = w0 270) → (x3 < z0 225 76) → 136 * (1600 - x3) + 6 < (N : Int) → wp_ (d + 6) 252 4 (some .boolean) (219, [(0, .ref 225), (1, .int (Int32.ofInt x1)), (3, .int (Int32.ofInt x3))], [], mk z w (pq x y tx it mt tt ct)) (poI S_252v z0 w0 (E_252v  z0 w0 x y tx it mt tt ct))) := by
    intro N
    induction N with
    | zero =>
      refine ⟨?_, ?_, ?_, ?_, ?_, ?_, ?_⟩
      · intro x1 z w
        intros; exfalso; omega
      · intro x1 z w
        intros; exfalso; omega
      · intro x1 z w
        intros; exfalso; omega
      · intro x1 x2 z w
        intros; exfalso; omega
      · intro  z w
        intros; exfalso; omega
      · intro x1 x2 x3 z w
        intros; exfalso; omega
      · intro x1 x3 z w
        intros; exfalso; omega
    | succ N ih =>
      obtain ⟨ih0, ih1, ih2, ih3, ih4, ih5, ih6⟩ := ih
      refine ⟨?_, ?_, ?_, ?_, ?_, ?_, ?_⟩
      · intro x1 z w  hx1 hz0_0 hst un_z_225_36 un_z_225_37 un_z_225_38 un_z_225_39 un_z_225_40 un_z_225_42 as1 as9 hM
        refine r_ld (pc' := 12) rfl rfl rfl rfl ?_
        refine r_cb (pc' := 14) rfl (by decide) rfl ?_
        refine r_ige (pc' := 17) rfl rfl ⟨by omega, by omega⟩ ⟨by decide, by decide⟩ (fun hc93 => ?_) (fun hc93 => ?_)
        · skip
          refine r_c0 (pc' := 31) rfl rfl ?_
          refine r_st (pc' := 32) (lv' := [(1, _), (0, _)]) rfl rfl rfl rfl ?_
          have hb94 := rd_225_36 hz
          have hb95 := rd_225_37 hz
          have hb96 := rd_225_38 hz
          have hb97 := rd_225_39 hz
          have hb98 := rd_225_40 hz
          have hb99 := rd_225_42 hz
          exact w_lv (sub_c rfl (sub_c rfl sub_n)) rfl (ih1 0 z w ⟨by omega, by omega⟩ ⟨by omega, by omega⟩ hst (un_z_225_36) (un_z_225_37) (un_z_225_38) (un_z_225_39) (un_z_225_40) (un_z_225_42) (by first | exact hs2 | exact sm_z 18 (fun j hj => as1 j (by omega))) (by first | omega | assumption) (by exact as9) (by omega))
        · skip
          refine r_ld (pc' := 18) rfl rfl rfl rfl ?_
          refine r_gr (b := 269) (pc' := 21) rfl rfl sh_225 rfl pp_225_69 ?_
          refine r_ld (pc' := 22) rfl rfl rfl rfl ?_
          refine r_c0 (pc' := 23) rfl rfl ?_
          refine r_is (pc' := 24) rfl rfl sh_269 rfl (by omega) (by omega) hst (inS_0 (by omega) (by omega) (by omega) (by omega)) (wr_269 ⟨by omega, by omega⟩) (fun z100 hq101 hs102 => ?_)
          have hqt := hq101
          refine r_inc (pc' := 27) (lv' := [(0, _)]) rfl rfl rfl rfl rfl ?_
          refine r_go rfl ?_
          have hb103 := rd_225_36 hz
          have hb104 := rd_225_37 hz
          have hb105 := rd_225_38 hz
          have hb106 := rd_225_39 hz
          have hb107 := rd_225_40 hz
          have hb108 := rd_225_42 hz
          exact w_lv (sub_c rfl (sub_c rfl sub_n)) rfl (ih0 (x1 + 1) z100 w ⟨by omega, by omega⟩ ⟨by omega, by omega⟩ hs102 ((((congrFun (congrFun hq101 _) _).trans (mu_ne (by omega))).trans un_z_225_36)) ((((congrFun (congrFun hq101 _) _).trans (mu_ne (by omega))).trans un_z_225_37)) ((((congrFun (congrFun hq101 _) _).trans (mu_ne (by omega))).trans un_z_225_38)) ((((congrFun (congrFun hq101 _) _).trans (mu_ne (by omega))).trans un_z_225_39)) ((((congrFun (congrFun hq101 _) _).trans (mu_ne (by omega))).trans un_z_225_40)) ((((congrFun (congrFun hq101 _) _).trans (mu_ne (by omega))).trans un_z_225_42)) (by first | (intro j hj; exfalso; omega) | (intro j hj; rw [hqt]; by_cases c : j = x1.toNat; (subst c; exact mu_eq); (rw [mu_ne (by omega)]; exact as1 j (by omega)))) (by first | exact as9 | rfl) (by omega))
      · intro x1 z w  hx1 hz0_0 hst un_z_225_36 un_z_225_37 un_z_225_38 un_z_225_39 un_z_225_40 un_z_225_42 as1 as2 as9 hM
        refine r_ld (pc' := 33) rfl rfl rfl rfl ?_
        refine r_ld (pc' := 34) rfl rfl rfl rfl ?_
        refine r_gi (pc' := 37) rfl rfl sh_225 rfl (hst.2.2.1 _ _ (notS_c (by omega) (notS_c (by omega) (notS_c (by omega) (notS_c (by omega) (notS_c (by omega) (notS_c (by omega) (notS_c (by omega) (notS_c (by omega) (notS_c (by omega) (notS_c (by omega) (notS_c (by omega) (notS_c (by omega) (notS_c (by omega) notS_n)))))))))))))) ?_
        refine r_ige (pc' := 40) rfl rfl ⟨by omega, by omega⟩ ⟨by omega, by omega⟩ (fun hc109 => ?_) (fun hc109 => ?_)
        · skip
          refine r_ld (pc' := 72) rfl rfl rfl rfl ?_
          have hRW : RW z := RW_c (hst.2.2.1 _ _ (notS_c (by omega) (notS_c (by omega) (notS_c (by omega) (notS_c (by omega) (notS_c (by omega) (notS_c (by omega) (notS_c (by omega) (notS_c (by omega) (notS_c (by omega) (notS_c (by omega) (notS_c (by omega) (notS_c (by omega) (notS_c (by omega) (notS_n))))))))))))))) (funext fun i => hst.2.2.1 _ _ (notS_c (by omega) (notS_c (by omega) (notS_c (by omega) (notS_c (by omega) (notS_c (by omega) (notS_c (by omega) (notS_c (by omega) (notS_c (by omega) (notS_c (by omega) (notS_c (by omega) (notS_c (by omega) (notS_c (by omega) (notS_c (by omega) (notS_n))))))))))))))) (funext fun i => hst.2.2.1 _ _ (notS_c (by omega) (notS_c (by omega) (notS_c (by omega) (notS_c (by omega) (notS_c (by omega) (notS_c (by omega) (notS_c (by omega) (notS_c (by omega) (notS_c (by omega) (notS_c (by omega) (notS_c (by omega) (notS_c (by omega) (notS_c (by omega) (notS_n))))))))))))))) (funext fun i => hst.2.2.1 _ _ (notS_c (by omega) (notS_c (by omega) (notS_c (by omega) (notS_c (by omega) (notS_c (by omega) (notS_c (by omega) (notS_c (by omega) (notS_c (by omega) (notS_c (by omega) (notS_c (by omega) (notS_c (by omega) (notS_c (by omega) (notS_c (by omega) (notS_n))))))))))))))) hrv.1.1
          refine r_cVI (pc' := 75) rfl rfl rfl rfl rfl sh_225 (m_231v (d := d + 5)  hst.1 hst.2.1 (by exact hRW)) (fun v110 z111 w112 p113 h114 hs115 hE116 => ?_)
          obtain ⟨rfl, rfl, rfl, hE116⟩ := hE116
          have htf := hE116.2.2
          refine r_zne (pc' := 78) rfl rfl ⟨by omega, by omega⟩ (fun hc118 => ?_) (fun hc118 => ?_)
          · skip
            refine r_c0 (pc' := 81) rfl rfl ?_
            refine r_st (pc' := 82) (lv' := [(1, _), (0, _)]) rfl rfl rfl rfl ?_
            have hb119 := rd_225_36 hz
            have hb120 := rd_225_37 hz
            have hb121 := rd_225_38 hz
            have hb122 := rd_225_39 hz
            have hb123 := rd_225_40 hz
            have hb124 := rd_225_42 hz
            exact w_lv (sub_c rfl (sub_c rfl sub_n)) rfl (ih2 0 z w ⟨by omega, by omega⟩ ⟨by omega, by omega⟩ hst (un_z_225_36) (un_z_225_37) (un_z_225_38) (un_z_225_39) (un_z_225_40) (un_z_225_42) (by first | exact as0 | exact ⟨FTw_c (z := z) ((hst.2.2.1 _ _ (notS_c (by omega) (notS_c (by omega) (notS_c (by omega) (notS_c (by omega) (notS_c (by omega) (notS_c (by omega) (notS_c (by omega) (notS_c (by omega) (notS_c (by omega) (notS_c (by omega) (notS_c (by omega) (notS_c (by omega) (notS_c (by omega) (notS_n))))))))))))))).symm) (funext fun i => (hst.2.2.1 _ _ (notS_c (by omega) (notS_c (by omega) (notS_c (by omega) (notS_c (by omega) (notS_c (by omega) (notS_c (by omega) (notS_c (by omega) (notS_c (by omega) (notS_c (by omega) (notS_c (by omega) (notS_c (by omega) (notS_c (by omega) (notS_c (by omega) (notS_n))))))))))))))).symm) (rE18 hst.1) (fun _ _ => rfl) (htf (by omega)), by rw [as1]; omega⟩) (by first | (intro e he; exfalso; omega) | (intro e he; by_cases c : e = x1.toNat; (subst c; exact ⟨by rw [hqb, mu_eq], by rw [hqb, mu_ne (by omega), hqa, mu_eq]; exact as2 _ (by omega)⟩); (rw [hqb, mu_ne (by omega), mu_ne (by omega), hqa, mu_ne (by omega), mu_ne (by omega)]; exact as1 e (by omega)))) (by first | exact fun e _ => congrFun as9 e | (intro e he; rw [hqb, mu_ne (by omega), hqa, mu_ne (by omega)]; exact as2 e (by omega))) (by omega))
          · skip
            refine r_c0 (pc' := 79) rfl rfl ?_
            exact r_rz rfl (by omega) (po_I hst ⟨by decide, by decide⟩ ⟨rfl, by omega, by omega, (by exact as9)⟩)
        · skip
          refine r_ld (pc' := 41) rfl rfl rfl rfl ?_
          refine r_gr (b := 269) (pc' := 44) rfl rfl sh_225 rfl pp_225_69 ?_
          refine r_ld (pc' := 45) rfl rfl rfl rfl ?_
          refine r_gr (b := 235) (pc' := 48) rfl rfl sh_225 rfl pp_225_18 ?_
          refine r_ld (pc' := 49) rfl rfl rfl rfl ?_
          refine r_gr (b := 272) (pc' := 52) rfl rfl sh_225 rfl pp_225_75 ?_
          refine r_ld (pc' := 53) rfl rfl rfl rfl ?_
          have hb125 := rd_225_77 hz
          refine r_gi (pc' := 56) rfl rfl sh_225 rfl (hst.2.2.1 _ _ (notS_c (by omega) (notS_c (by omega) (notS_c (by omega) (notS_c (by omega) (notS_c (by omega) (notS_c (by omega) (notS_c (by omega) (notS_c (by omega) (notS_c (by omega) (notS_c (by omega) (notS_c (by omega) (notS_c (by omega) (notS_c (by omega) notS_n)))))))))))))) ?_
          refine r_ld (pc' := 57) rfl rfl rfl rfl ?_
          refine r_add (pc' := 58) rfl rfl ?_
          have hb126 := rd_272 hz (i := ((z0 225 77) + x1).toNat) (by omega)
          refine r_ia (pc' := 59) rfl rfl sh_272 rfl (by omega) (by omega) (hst.2.2.1 _ _ (notS_c (by omega) (notS_c (by omega) (notS_c (by omega) (notS_c (by omega) (notS_c (by omega) (notS_c (by omega) (notS_c (by omega) (notS_c (by omega) (notS_c (by omega) (notS_c (by omega) (notS_c (by omega) (notS_c (by omega) (notS_c (by omega) notS_n)))))))))))))) ?_
          have hb127 := rd_235 hz (i := (z0 272 ((z0 225 77) + x1).toNat).toNat) (by omega)
          refine r_ia (pc' := 60) rfl rfl sh_235 rfl (by omega) (by omega) (hst.2.2.1 _ _ (notS_c (by omega) (notS_c (by omega) (notS_c (by omega) (notS_c (by omega) (notS_c (by omega) (notS_c (by omega) (notS_c (by omega) (notS_c (by omega) (notS_c (by omega) (notS_c (by omega) (notS_c (by omega) (notS_c (by omega) (notS_c (by omega) notS_n)))))))))))))) ?_
          have hsa := sm_at (f := z 269) (k := (z0 235 (z0 272 (z0 225 77 + x1).toNat).toNat).toNat) 18 (by omega) (fun j hj => (rd_269 hst.1 (i := j) hj).1)
          refine r_al (pc' := 61) rfl rfl rfl rfl ?_
          have hb128 := rd_269 hst.1 (i := (z0 235 (z0 272 ((z0 225 77) + x1).toNat).toNat).toNat) (by omega)
          refine r_ia (pc' := 62) rfl rfl sh_269 rfl (by omega) (by omega) rfl ?_
          refine r_c0 (pc' := 63) rfl rfl ?_
          refine r_add (pc' := 64) rfl rfl ?_
          refine r_is (pc' := 65) rfl rfl sh_269 rfl (by omega) (by omega) hst (inS_0 (by omega) (by omega) (by omega) (by omega)) (wr_269 ⟨by omega, by omega⟩) (fun z129 hq130 hs131 => ?_)
          have hqt := hq130
          have hs2 : sm (z129 269) 18 = x1 + 1 := by
            rw [sm_u (f := z 269) (g := z129 269) (i := (z0 235 (z0 272 (z0 225 77 + x1).toNat).toNat).toNat) (fun j hj => by rw [hqt]; exact mu_ne (by omega)) 18 (by omega), as1, show z129 269 (z0 235 (z0 272 (z0 225 77 + x1).toNat).toNat).toNat = z 269 (z0 235 (z0 272 (z0 225 77 + x1).toNat).toNat).toNat + 1 from by rw [hqt]; exact mu_eq]; omega
          refine r_inc (pc' := 68) (lv' := [(0, _)]) rfl rfl rfl rfl rfl ?_
          refine r_go rfl ?_
          have hb132 := rd_225_36 hz
          have hb133 := rd_225_37 hz
          have hb134 := rd_225_38 hz
          have hb135 := rd_225_39 hz
          have hb136 := rd_225_40 hz
          have hb137 := rd_225_42 hz
          exact w_lv (sub_c rfl (sub_c rfl sub_n)) rfl (ih1 (x1 + 1) z129 w ⟨by omega, by omega⟩ ⟨by omega, by omega⟩ hs131 ((((congrFun (congrFun hq130 _) _).trans (mu_ne (by omega))).trans un_z_225_36)) ((((congrFun (congrFun hq130 _) _).trans (mu_ne (by omega))).trans un_z_225_37)) ((((congrFun (congrFun hq130 _) _).trans (mu_ne (by omega))).trans un_z_225_38)) ((((congrFun (congrFun hq130 _) _).trans (mu_ne (by omega))).trans un_z_225_39)) ((((congrFun (congrFun hq130 _) _).trans (mu_ne (by omega))).trans un_z_225_40)) ((((congrFun (congrFun hq130 _) _).trans (mu_ne (by omega))).trans un_z_225_42)) (by first | exact hs2 | exact sm_z 18 (fun j hj => as1 j (by omega))) (by first | omega | assumption) (by exact as9) (by omega))
      · intro x1 z w  hx1 hz0_0 hst un_z_225_36 un_z_225_37 un_z_225_38 un_z_225_39 un_z_225_40 un_z_225_42 as0 as1 as2 hM
        refine r_ld (pc' := 83) rfl rfl rfl rfl ?_
        refine r_cb (pc' := 85) rfl (by decide) rfl ?_
        refine r_ige (pc' := 88) rfl rfl ⟨by omega, by omega⟩ ⟨by decide, by decide⟩ (fun hc138 => ?_) (fun hc138 => ?_)
        · skip
          refine r_ld (pc' := 120) rfl rfl rfl rfl ?_
          refine r_c0 (pc' := 121) rfl rfl ?_
          have hRW : RW z := RW_c (hst.2.2.1 _ _ (notS_c (by omega) (notS_c (by omega) (notS_c (by omega) (notS_c (by omega) (notS_c (by omega) (notS_c (by omega) (notS_c (by omega) (notS_c (by omega) (notS_c (by omega) (notS_c (by omega) (notS_c (by omega) (notS_c (by omega) (notS_c (by omega) (notS_n))))))))))))))) (funext fun i => hst.2.2.1 _ _ (notS_c (by omega) (notS_c (by omega) (notS_c (by omega) (notS_c (by omega) (notS_c (by omega) (notS_c (by omega) (notS_c (by omega) (notS_c (by omega) (notS_c (by omega) (notS_c (by omega) (notS_c (by omega) (notS_c (by omega) (notS_c (by omega) (notS_n))))))))))))))) (funext fun i => hst.2.2.1 _ _ (notS_c (by omega) (notS_c (by omega) (notS_c (by omega) (notS_c (by omega) (notS_c (by omega) (notS_c (by omega) (notS_c (by omega) (notS_c (by omega) (notS_c (by omega) (notS_c (by omega) (notS_c (by omega) (notS_c (by omega) (notS_c (by omega) (notS_n))))))))))))))) (funext fun i => hst.2.2.1 _ _ (notS_c (by omega) (notS_c (by omega) (notS_c (by omega) (notS_c (by omega) (notS_c (by omega) (notS_c (by omega) (notS_c (by omega) (notS_c (by omega) (notS_c (by omega) (notS_c (by omega) (notS_c (by omega) (notS_c (by omega) (notS_c (by omega) (notS_n))))))))))))))) hrv.1.1
          have hFT : FTw z (w 270) := FTw_c (z := z0) (n := z 269) (hst.2.2.1 _ _ (notS_c (by omega) (notS_c (by omega) (notS_c (by omega) (notS_c (by omega) (notS_c (by omega) (notS_c (by omega) (notS_c (by omega) (notS_c (by omega) (notS_c (by omega) (notS_c (by omega) (notS_c (by omega) (notS_c (by omega) (notS_c (by omega) (notS_n))))))))))))))) (funext fun i => hst.2.2.1 _ _ (notS_c (by omega) (notS_c (by omega) (notS_c (by omega) (notS_c (by omega) (notS_c (by omega) (notS_c (by omega) (notS_c (by omega) (notS_c (by omega) (notS_c (by omega) (notS_c (by omega) (notS_c (by omega) (notS_c (by omega) (notS_c (by omega) (notS_n))))))))))))))) h18 (fun e he => (as1 e (by omega)).1) as0.1
          have hs8 : sm (w 270) 18 ≤ 18000 := by rw [sm_c (f := z 269) 18 (fun j hj => (as1 j (by omega)).1)]; have := as0.2; omega
          have w273 : ∀ e : Nat, e < 18 → w 273 e = w0 270 e := fun e he => (as1 e (by omega)).2
          have hb139 := rd_225_26 hz
          have hf140 : z 225 26 = z0 225 26 := (hst.2.2.1 _ _ (notS_c (by omega) (notS_c (by omega) (notS_c (by omega) (notS_c (by omega) (notS_c (by omega) (notS_c (by omega) (notS_c (by omega) (notS_c (by omega) (notS_c (by omega) (notS_c (by omega) (notS_c (by omega) (notS_c (by omega) (notS_c (by omega) notS_n))))))))))))))
          have hF141 : z 235 = z0 235 := (funext fun _ => hst.2.2.1 _ _ (notS_c (by omega) (notS_c (by omega) (notS_c (by omega) (notS_c (by omega) (notS_c (by omega) (notS_c (by omega) (notS_c (by omega) (notS_c (by omega) (notS_c (by omega) (notS_c (by omega) (notS_c (by omega) (notS_c (by omega) (notS_c (by omega) notS_n))))))))))))))
          have hF142 : z 241 = z0 241 := (funext fun _ => hst.2.2.1 _ _ (notS_c (by omega) (notS_c (by omega) (notS_c (by omega) (notS_c (by omega) (notS_c (by omega) (notS_c (by omega) (notS_c (by omega) (notS_c (by omega) (notS_c (by omega) (notS_c (by omega) (notS_c (by omega) (notS_c (by omega) (notS_c (by omega) notS_n))))))))))))))
          refine r_cVI (pc' := 124) rfl rfl rfl rfl rfl sh_225 (m_190n (d := d) ((-1)) hst.1 hst.2.1 ⟨by omega, by omega⟩ (by exact hRW) (by exact hFT)) (fun v143 z144 w145 p146 h147 hs148 hE149 => ?_)
          have hs150 := st_tr hst hs148 (sub_B rfl)
          obtain ⟨rfl, hE149⟩ := hE149
          refine r_st (pc' := 125) (lv' := [(1, _), (0, _)]) rfl rfl rfl rfl ?_
          refine r_ld (pc' := 126) rfl rfl rfl rfl ?_
          refine r_zeq (pc' := 129) rfl rfl ⟨by omega, by omega⟩ (fun hc151 => ?_) (fun hc151 => ?_)
          · skip
            refine r_c0 (pc' := 135) rfl rfl ?_
            refine r_st (pc' := 136) (lv' := [(2, _), (1, _), (0, _)]) rfl rfl rfl rfl ?_
            exact w_lv (sub_c rfl (sub_c rfl (sub_c rfl sub_n))) rfl (ih3 v143 0 z144 w145 ⟨by omega, by omega⟩ ⟨by omega, by omega⟩ ⟨by omega, by omega⟩ hs150 (by first | (intro e he; rw [hqr, mu_ne (by omega)]; exact as1 e he) | (intro e he; rw [show w145 273 e = w 273 e from (hs148.2.2.2 _ _ (notS_c (by omega) (notS_c (by omega) (notS_c (by omega) (notS_c (by omega) (notS_c (by omega) (notS_c (by omega) (notS_c (by omega) (notS_c (by omega) notS_n)))))))))]; exact w273 e he)) (by first | (intro e he; exfalso; omega) | (intro e he; rw [hqr]; by_cases c : e = x2.toNat; (subst c; rw [mu_eq]; exact as1 _ (by omega)); (rw [mu_ne (by omega)]; exact as2 e (by omega)))) (by omega))
          · skip
            refine r_ld (pc' := 130) rfl rfl rfl rfl ?_
            refine r_c0 (pc' := 131) rfl rfl ?_
            have c26 : z144 225 26 = z 225 26 := (hs148.2.2.1 _ _ (notS_c (by omega) (notS_c (by omega) (notS_c (by omega) (notS_c (by omega) (notS_c (by omega) (notS_c (by omega) (notS_c (by omega) (notS_c (by omega) notS_n)))))))))
            have c235 : z144 235 = z 235 := funext fun i => (hs148.2.2.1 _ _ (notS_c (by omega) (notS_c (by omega) (notS_c (by omega) (notS_c (by omega) (notS_c (by omega) (notS_c (by omega) (notS_c (by omega) (notS_c (by omega) notS_n)))))))))
            have c240 : z144 240 = z 240 := funext fun i => (hs148.2.2.1 _ _ (notS_c (by omega) (notS_c (by omega) (notS_c (by omega) (notS_c (by omega) (notS_c (by omega) (notS_c (by omega) (notS_c (by omega) (notS_c (by omega) notS_n)))))))))
            have c241 : z144 241 = z 241 := funext fun i => (hs148.2.2.1 _ _ (notS_c (by omega) (notS_c (by omega) (notS_c (by omega) (notS_c (by omega) (notS_c (by omega) (notS_c (by omega) (notS_c (by omega) (notS_c (by omega) notS_n)))))))))
            have d270 : w145 270 = w 270 := funext fun i => (hs148.2.2.2 _ _ (notS_c (by omega) (notS_c (by omega) (notS_c (by omega) (notS_c (by omega) (notS_c (by omega) (notS_c (by omega) (notS_c (by omega) (notS_c (by omega) notS_n)))))))))
            have hf152 : z144 225 26 = z0 225 26 := ((hs148.2.2.1 _ _ (notS_c (by omega) (notS_c (by omega) (notS_c (by omega) (notS_c (by omega) (notS_c (by omega) (notS_c (by omega) (notS_c (by omega) (notS_c (by omega) notS_n))))))))).trans (hst.2.2.1 _ _ (notS_c (by omega) (notS_c (by omega) (notS_c (by omega) (notS_c (by omega) (notS_c (by omega) (notS_c (by omega) (notS_c (by omega) (notS_c (by omega) (notS_c (by omega) (notS_c (by omega) (notS_c (by omega) (notS_c (by omega) (notS_c (by omega) notS_n)))))))))))))))
            have hF153 : z144 235 = z0 235 := ((funext fun _ => hs148.2.2.1 _ _ (notS_c (by omega) (notS_c (by omega) (notS_c (by omega) (notS_c (by omega) (notS_c (by omega) (notS_c (by omega) (notS_c (by omega) (notS_c (by omega) notS_n))))))))).trans (funext fun _ => hst.2.2.1 _ _ (notS_c (by omega) (notS_c (by omega) (notS_c (by omega) (notS_c (by omega) (notS_c (by omega) (notS_c (by omega) (notS_c (by omega) (notS_c (by omega) (notS_c (by omega) (notS_c (by omega) (notS_c (by omega) (notS_c (by omega) (notS_c (by omega) notS_n)))))))))))))))
            have hF154 : w145 270 = w 270 := (funext fun _ => hs148.2.2.2 _ _ (notS_c (by omega) (notS_c (by omega) (notS_c (by omega) (notS_c (by omega) (notS_c (by omega) (notS_c (by omega) (notS_c (by omega) (notS_c (by omega) notS_n)))))))))
            refine r_cVV (pc' := 134) rfl rfl rfl rfl rfl sh_225 (m_193n (d := d + 2) ((-1)) hs150.1 hs150.2.1 ⟨by omega, by omega⟩ (by exact RW_c c26 c235 c240 c241 hRW) (by rw [d270]; exact FTw_c (z := z) (n := w 270) c26 c235 (rE18 hst.1) (fun _ _ => rfl) hFT) (by rw [d270]; exact Int.le_trans (sm_trle 18 (fun j hj => (rd_270 hst.2.1 (i := j) hj).1)) hs8)) (fun z156 w157 p158 hs160 hE161 => ?_)
            have hs162 := st_tr hs150 hs160 (sub_B rfl)
            obtain rfl := hE161
            refine r_c0 (pc' := 135) rfl rfl ?_
            refine r_st (pc' := 136) (lv' := [(2, _), (1, _), (0, _)]) rfl rfl rfl rfl ?_
            exact w_lv (sub_c rfl (sub_c rfl (sub_c rfl sub_n))) rfl (ih3 v143 0 z156 w157 ⟨by omega, by omega⟩ ⟨by omega, by omega⟩ ⟨by omega, by omega⟩ hs162 (by first | (intro e he; rw [hqr, mu_ne (by omega)]; exact as1 e he) | (intro e he; rw [show w157 273 e = w 273 e from ((hs160.2.2.2 _ _ (notS_c (by omega) (notS_c (by omega) (notS_c (by omega) (notS_c (by omega) (notS_c (by omega) (notS_c (by omega) (notS_c (by omega) notS_n)))))))).trans (hs148.2.2.2 _ _ (notS_c (by omega) (notS_c (by omega) (notS_c (by omega) (notS_c (by omega) (notS_c (by omega) (notS_c (by omega) (notS_c (by omega) (notS_c (by omega) notS_n))))))))))]; exact w273 e he)) (by first | (intro e he; exfalso; omega) | (intro e he; rw [hqr]; by_cases c : e = x2.toNat; (subst c; rw [mu_eq]; exact as1 _ (by omega)); (rw [mu_ne (by omega)]; exact as2 e (by omega)))) (by omega))
        · skip
          refine r_ld (pc' := 89) rfl rfl rfl rfl ?_
          refine r_gr (b := 273) (pc' := 92) rfl rfl sh_225 rfl pp_225_78 ?_
          refine r_ld (pc' := 93) rfl rfl rfl rfl ?_
          refine r_ld (pc' := 94) rfl rfl rfl rfl ?_
          refine r_gr (b := 270) (pc' := 97) rfl rfl sh_225 rfl pp_225_71 ?_
          refine r_ld (pc' := 98) rfl rfl rfl rfl ?_
          have hb163 := rd_270 hst.2.1 (i := x1.toNat) (by omega)
          refine r_la (pc' := 99) rfl rfl sh_270 rfl (by omega) (by omega) rfl ?_
          refine r_ls (pc' := 100) rfl rfl sh_273 rfl (by omega) (by omega) hst (inS_s (inS_s (inS_s (inS_s (inS_s (inS_s (inS_s (inS_s (inS_s (inS_s (inS_s (inS_0 (by omega) (by omega) (by omega) (by omega))))))))))))) (wr_273 ⟨by omega, by omega⟩) (fun w164 hq165 hs166 => ?_)
          have hqa := hq165
          refine r_ld (pc' := 101) rfl rfl rfl rfl ?_
          refine r_gr (b := 270) (pc' := 104) rfl rfl sh_225 rfl pp_225_71 ?_
          refine r_ld (pc' := 105) rfl rfl rfl rfl ?_
          refine r_ld (pc' := 106) rfl rfl rfl rfl ?_
          refine r_gr (b := 269) (pc' := 109) rfl rfl sh_225 rfl pp_225_69 ?_
          refine r_ld (pc' := 110) rfl rfl rfl rfl ?_
          have hb167 := rd_269 hst.1 (i := x1.toNat) (by omega)
          refine r_ia (pc' := 111) rfl rfl sh_269 rfl (by omega) (by omega) rfl ?_
          refine r_i2l (pc' := 112) rfl rfl ⟨by omega, by omega⟩ ?_
          refine r_ls (pc' := 113) rfl rfl sh_270 rfl (by omega) (by omega) hs166 (inS_s (inS_s (inS_s (inS_s (inS_s (inS_s (inS_s (inS_s (inS_s (inS_s (inS_s (inS_s (inS_0 (by omega) (by omega) (by omega) (by omega)))))))))))))) (wr_270 ⟨by omega, by omega⟩) (fun w168 hq169 hs170 => ?_)
          have hqb := hq169
          refine r_inc (pc' := 116) (lv' := [(0, _)]) rfl rfl rfl rfl rfl ?_
          refine r_go rfl ?_
          have hb171 := rd_225_36 hz
          have hb172 := rd_225_37 hz
          have hb173 := rd_225_38 hz
          have hb174 := rd_225_39 hz
          have hb175 := rd_225_40 hz
          have hb176 := rd_225_42 hz
          exact w_lv (sub_c rfl (sub_c rfl sub_n)) rfl (ih2 (x1 + 1) z w168 ⟨by omega, by omega⟩ ⟨by omega, by omega⟩ hs170 (un_z_225_36) (un_z_225_37) (un_z_225_38) (un_z_225_39) (un_z_225_40) (un_z_225_42) (by first | exact as0 | exact ⟨FTw_c (z := z) ((hst.2.2.1 _ _ (notS_c (by omega) (notS_c (by omega) (notS_c (by omega) (notS_c (by omega) (notS_c (by omega) (notS_c (by omega) (notS_c (by omega) (notS_c (by omega) (notS_c (by omega) (notS_c (by omega) (notS_c (by omega) (notS_c (by omega) (notS_c (by omega) (notS_n))))))))))))))).symm) (funext fun i => (hst.2.2.1 _ _ (notS_c (by omega) (notS_c (by omega) (notS_c (by omega) (notS_c (by omega) (notS_c (by omega) (notS_c (by omega) (notS_c (by omega) (notS_c (by omega) (notS_c (by omega) (notS_c (by omega) (notS_c (by omega) (notS_c (by omega) (notS_c (by omega) (notS_n))))))))))))))).symm) (rE18 hst.1) (fun _ _ => rfl) (htf (by omega)), by rw [as1]; omega⟩) (by first | (intro e he; exfalso; omega) | (intro e he; by_cases c : e = x1.toNat; (subst c; exact ⟨by rw [hqb, mu_eq], by rw [hqb, mu_ne (by omega), hqa, mu_eq]; exact as2 _ (by omega)⟩); (rw [hqb, mu_ne (by omega), mu_ne (by omega), hqa, mu_ne (by omega), mu_ne (by omega)]; exact as1 e (by omega)))) (by first | exact fun e _ => congrFun as9 e | (intro e he; rw [hqb, mu_ne (by omega), hqa, mu_ne (by omega)]; exact as2 e (by omega))) (by omega))
      · intro x1 x2 z w  hx1 hx2 hz0_0 hst as1 as2 hM
        refine r_ld (pc' := 137) rfl rfl rfl rfl ?_
        refine r_cb (pc' := 139) rfl (by decide) rfl ?_
        refine r_ige (pc' := 142) rfl rfl ⟨by omega, by omega⟩ ⟨by decide, by decide⟩ (fun hc177 => ?_) (fun hc177 => ?_)
        · skip
          have hw9 : w 270 = w0 270 := by
            funext e
            by_cases c : e < 18
            · exact as2 e (by omega)
            · exact hst.2.2.2 _ _ (notS_c (by omega) (notS_c (by omega) (notS_c (by omega) (notS_c (by omega) (notS_c (by omega) (notS_c (by omega) (notS_c (by omega) (notS_c (by omega) (notS_c (by omega) (notS_c (by omega) (notS_c (by omega) (notS_c (by omega) (notS_c (by omega) (notS_n))))))))))))))
          refine r_ld (pc' := 161) rfl rfl rfl rfl ?_
          refine r_zeq (pc' := 164) rfl rfl ⟨by omega, by omega⟩ (fun hc178 => ?_) (fun hc178 => ?_)
          · skip
            exact w_lv (sub_c rfl sub_n) rfl (ih4 z w ⟨by omega, by omega⟩ hst (by first | exact as1 | exact hw9) (by omega))
          · skip
            refine r_ld (pc' := 165) rfl rfl rfl rfl ?_
            have hb179 := rd_225_42 hst.1
            refine r_gi (pc' := 168) rfl rfl sh_225 rfl rfl ?_
            refine r_ld (pc' := 169) rfl rfl rfl rfl ?_
            refine r_gi (pc' := 172) rfl rfl sh_225 rfl (hst.2.2.1 _ _ (notS_c (by omega) (notS_c (by omega) (notS_c (by omega) (notS_c (by omega) (notS_c (by omega) (notS_c (by omega) (notS_c (by omega) (notS_c (by omega) (notS_c (by omega) (notS_c (by omega) (notS_c (by omega) (notS_c (by omega) (notS_c (by omega) notS_n)))))))))))))) ?_
            refine r_ine (pc' := 175) rfl rfl ⟨by omega, by omega⟩ ⟨by omega, by omega⟩ (fun hc180 => ?_) (fun hc180 => ?_)
            · skip
              exact w_lv (sub_c rfl sub_n) rfl (ih4 z w ⟨by omega, by omega⟩ hst (by first | exact as1 | exact hw9) (by omega))
            · skip
              refine r_c0 (pc' := 176) rfl rfl ?_
              refine r_go rfl ?_
              refine r_st (pc' := 181) (lv' := [(1, _), (0, _), (2, _)]) rfl rfl rfl rfl ?_
              refine r_c0 (pc' := 182) rfl rfl ?_
              refine r_st (pc' := 183) (lv' := [(2, _), (1, _), (0, _)]) rfl rfl rfl rfl ?_
              refine r_c0 (pc' := 184) rfl rfl ?_
              refine r_st (pc' := 185) (lv' := [(3, _), (2, _), (1, _), (0, _)]) rfl rfl rfl rfl ?_
              exact w_lv (sub_c rfl (sub_c rfl (sub_c rfl (sub_c rfl sub_n)))) rfl (ih5 1 0 0 z w ⟨by omega, by omega⟩ ⟨by omega, by omega⟩ ⟨by omega, by omega⟩ ⟨by omega, by omega⟩ hst (by first | exact as1 | exact hw9) (by first | omega | assumption) (by omega))
        · skip
          refine r_ld (pc' := 143) rfl rfl rfl rfl ?_
          refine r_gr (b := 270) (pc' := 146) rfl rfl sh_225 rfl pp_225_71 ?_
          refine r_ld (pc' := 147) rfl rfl rfl rfl ?_
          refine r_ld (pc' := 148) rfl rfl rfl rfl ?_
          refine r_gr (b := 273) (pc' := 151) rfl rfl sh_225 rfl pp_225_78 ?_
          refine r_ld (pc' := 152) rfl rfl rfl rfl ?_
          have hb181 := rd_273 hst.2.1 (i := x2.toNat) (by omega)
          refine r_la (pc' := 153) rfl rfl sh_273 rfl (by omega) (by omega) rfl ?_
          refine r_ls (pc' := 154) rfl rfl sh_270 rfl (by omega) (by omega) hst (inS_s (inS_s (inS_s (inS_s (inS_s (inS_s (inS_s (inS_s (inS_s (inS_s (inS_s (inS_s (inS_0 (by omega) (by omega) (by omega) (by omega)))))))))))))) (wr_270 ⟨by omega, by omega⟩) (fun w182 hq183 hs184 => ?_)
          have hqr := hq183
          refine r_inc (pc' := 157) (lv' := [(0, _), (1, _)]) rfl rfl rfl rfl rfl ?_
          refine r_go rfl ?_
          exact w_lv (sub_c rfl (sub_c rfl (sub_c rfl sub_n))) rfl (ih3 x1 (x2 + 1) z w182 ⟨by omega, by omega⟩ ⟨by omega, by omega⟩ ⟨by omega, by omega⟩ hs184 (by first | (intro e he; rw [hqr, mu_ne (by omega)]; exact as1 e he) | (intro e he; rw [show w182 273 e = w 273 e from ((congrFun (congrFun hq183 _) _).trans (mu_ne (by omega)))]; exact w273 e he)) (by first | (intro e he; exfalso; omega) | (intro e he; rw [hqr]; by_cases c : e = x2.toNat; (subst c; rw [mu_eq]; exact as1 _ (by omega)); (rw [mu_ne (by omega)]; exact as2 e (by omega)))) (by omega))
      · intro  z w  hz0_0 hst as1 hM
        refine r_c0 (pc' := 180) rfl rfl ?_
        refine r_st (pc' := 181) (lv' := [(1, _), (0, _)]) rfl rfl rfl rfl ?_
        refine r_c0 (pc' := 182) rfl rfl ?_
        refine r_st (pc' := 183) (lv' := [(2, _), (1, _), (0, _)]) rfl rfl rfl rfl ?_
        refine r_c0 (pc' := 184) rfl rfl ?_
        refine r_st (pc' := 185) (lv' := [(3, _), (2, _), (1, _), (0, _)]) rfl rfl rfl rfl ?_
        exact w_lv (sub_c rfl (sub_c rfl (sub_c rfl (sub_c rfl sub_n)))) rfl (ih5 0 0 0 z w ⟨by omega, by omega⟩ ⟨by omega, by omega⟩ ⟨by omega, by omega⟩ ⟨by omega, by omega⟩ hst (by first | exact as1 | exact hw9) (by first | omega | assumption) (by omega))
      · intro x1 x2 x3 z w  hx1 hx2 hx3 hz0_0 hst as1 as2 hM
        refine r_ld (pc' := 186) rfl rfl rfl rfl ?_
        refine r_ld (pc' := 187) rfl rfl rfl rfl ?_
        refine r_gi (pc' := 190) rfl rfl sh_225 rfl (hst.2.2.1 _ _ (notS_c (by omega) (notS_c (by omega) (notS_c (by omega) (notS_c (by omega) (notS_c (by omega) (notS_c (by omega) (notS_c (by omega) (notS_c (by omega) (notS_c (by omega) (notS_c (by omega) (notS_c (by omega) (notS_c (by omega) (notS_c (by omega) notS_n)))))))))))))) ?_
        refine r_ige (pc' := 193) rfl rfl ⟨by omega, by omega⟩ ⟨by omega, by omega⟩ (fun hc185 => ?_) (fun hc185 => ?_)
        · skip
          refine r_ld (pc' := 232) rfl rfl rfl rfl ?_
          exact r_rz rfl (by omega) (po_I hst ⟨by omega, by omega⟩ ⟨rfl, by omega, by omega, (by exact as1)⟩)
        · skip
          refine r_ld (pc' := 194) rfl rfl rfl rfl ?_
          refine r_zeq (pc' := 197) rfl rfl ⟨by omega, by omega⟩ (fun hc186 => ?_) (fun hc186 => ?_)
          · skip
            refine r_ld (pc' := 232) rfl rfl rfl rfl ?_
            exact r_rz rfl (by omega) (po_I hst ⟨by omega, by omega⟩ ⟨rfl, by omega, by omega, (by exact as1)⟩)
          · skip
            refine r_ld (pc' := 198) rfl rfl rfl rfl ?_
            refine r_zne (pc' := 201) rfl rfl ⟨by omega, by omega⟩ (fun hc187 => ?_) (fun hc187 => ?_)
            · skip
              refine r_ld (pc' := 232) rfl rfl rfl rfl ?_
              exact r_rz rfl (by omega) (po_I hst ⟨by omega, by omega⟩ ⟨rfl, by omega, by omega, (by exact as1)⟩)
            · skip
              refine r_ld (pc' := 202) rfl rfl rfl rfl ?_
              refine r_ld (pc' := 203) rfl rfl rfl rfl ?_
              refine r_c0 (pc' := 204) rfl rfl ?_
              have hb188 := rd_225_77 hz
              have hf189 : z 225 77 = z0 225 77 := (hst.2.2.1 _ _ (notS_c (by omega) (notS_c (by omega) (notS_c (by omega) (notS_c (by omega) (notS_c (by omega) (notS_c (by omega) (notS_c (by omega) (notS_c (by omega) (notS_c (by omega) (notS_c (by omega) (notS_c (by omega) (notS_c (by omega) (notS_c (by omega) notS_n))))))))))))))
              have hf190 : z 225 76 = z0 225 76 := (hst.2.2.1 _ _ (notS_c (by omega) (notS_c (by omega) (notS_c (by omega) (notS_c (by omega) (notS_c (by omega) (notS_c (by omega) (notS_c (by omega) (notS_c (by omega) (notS_c (by omega) (notS_c (by omega) (notS_c (by omega) (notS_c (by omega) (notS_c (by omega) notS_n))))))))))))))
              refine r_cVI (pc' := 207) rfl rfl rfl rfl rfl sh_225 (m_251 (d := d + 5) x3 0 hst.1 hst.2.1 ⟨by omega, by omega⟩ ⟨by omega, by omega⟩ (by first | omega | assumption | (simp only [hf189, hf190]; assumption))) (fun v191 z192 w193 p194 h195 hs196 hE197 => ?_)
              obtain ⟨rfl, rfl, rfl, hE197⟩ := hE197
              refine r_zne (pc' := 210) rfl rfl ⟨by omega, by omega⟩ (fun hc199 => ?_) (fun hc199 => ?_)
              · skip
                exact w_lv (sub_c rfl (sub_c rfl (sub_c rfl sub_n))) rfl (ih6 x1 x3 z w ⟨by omega, by omega⟩ ⟨by omega, by omega⟩ ⟨by omega, by omega⟩ hst (by first | exact as1 | exact hw9) (by first | omega | assumption) (by omega))
              · skip
                refine r_ld (pc' := 211) rfl rfl rfl rfl ?_
                refine r_ld (pc' := 212) rfl rfl rfl rfl ?_
                refine r_c0 (pc' := 213) rfl rfl ?_
                have hf200 : z 225 77 = z0 225 77 := (hst.2.2.1 _ _ (notS_c (by omega) (notS_c (by omega) (notS_c (by omega) (notS_c (by omega) (notS_c (by omega) (notS_c (by omega) (notS_c (by omega) (notS_c (by omega) (notS_c (by omega) (notS_c (by omega) (notS_c (by omega) (notS_c (by omega) (notS_c (by omega) notS_n))))))))))))))
                have hf201 : z 225 76 = z0 225 76 := (hst.2.2.1 _ _ (notS_c (by omega) (notS_c (by omega) (notS_c (by omega) (notS_c (by omega) (notS_c (by omega) (notS_c (by omega) (notS_c (by omega) (notS_c (by omega) (notS_c (by omega) (notS_c (by omega) (notS_c (by omega) (notS_c (by omega) (notS_c (by omega) notS_n))))))))))))))
                refine r_cVI (pc' := 216) rfl rfl rfl rfl rfl sh_225 (m_251 (d := d + 5) x3 1 hst.1 hst.2.1 ⟨by omega, by omega⟩ ⟨by omega, by omega⟩ (by first | omega | assumption | (simp only [hf200, hf201]; assumption))) (fun v202 z203 w204 p205 h206 hs207 hE208 => ?_)
                obtain ⟨rfl, rfl, rfl, hE208⟩ := hE208
                refine r_zeq (pc' := 219) rfl rfl ⟨by omega, by omega⟩ (fun hc210 => ?_) (fun hc210 => ?_)
                · skip
                  refine r_c0 (pc' := 224) rfl rfl ?_
                  refine r_st (pc' := 225) (lv' := [(2, _), (0, _), (1, _), (3, _)]) rfl rfl rfl rfl ?_
                  refine r_inc (pc' := 228) (lv' := [(2, _), (0, _), (1, _)]) rfl rfl rfl rfl rfl ?_
                  refine r_go rfl ?_
                  exact w_lv (sub_c rfl (sub_c rfl (sub_c rfl (sub_c rfl sub_n)))) rfl (ih5 x1 0 (x3 + 1) z w ⟨by omega, by omega⟩ ⟨by omega, by omega⟩ ⟨by omega, by omega⟩ ⟨by omega, by omega⟩ hst (by first | exact as1 | exact hw9) (by first | omega | assumption) (by omega))
                · skip
                  exact w_lv (sub_c rfl (sub_c rfl (sub_c rfl sub_n))) rfl (ih6 x1 x3 z w ⟨by omega, by omega⟩ ⟨by omega, by omega⟩ ⟨by omega, by omega⟩ hst (by first | exact as1 | exact hw9) (by first | omega | assumption) (by omega))
      · intro x1 x3 z w  hx1 hx3 hz0_0 hst as1 as2 hM
        refine r_c0 (pc' := 220) rfl rfl ?_
        refine r_go rfl ?_
        refine r_st (pc' := 225) (lv' := [(2, _), (0, _), (1, _), (3, _)]) rfl rfl rfl rfl ?_
        refine r_inc (pc' := 228) (lv' := [(2, _), (0, _), (1, _)]) rfl rfl rfl rfl rfl ?_
        refine r_go rfl ?_
        exact w_lv (sub_c rfl (sub_c rfl (sub_c rfl (sub_c rfl sub_n)))) rfl (ih5 x1 1 (x3 + 1) z w ⟨by omega, by omega⟩ ⟨by omega, by omega⟩ ⟨by omega, by omega⟩ ⟨by omega, by omega⟩ hst (by first | exact as1 | exact hw9) (by first | omega | assumption) (by omega))
  refine w_m rfl rfl ?_
  refine r_ld (pc' := 1) rfl rfl rfl rfl ?_
  have hb211 := rd_225_76 hz
  refine r_gi (pc' := 4) rfl rfl sh_225 rfl rfl ?_
  refine r_zne (pc' := 7) rfl rfl ⟨by omega, by omega⟩ (fun hc212 => ?_) (fun hc212 => ?_)
  · skip
    refine r_c0 (pc' := 10) rfl rfl ?_
    refine r_st (pc' := 11) (lv' := [(1, _), (0, _)]) rfl rfl rfl rfl ?_
    have hb213 := rd_225_36 hz
    have hb214 := rd_225_37 hz
    have hb215 := rd_225_38 hz
    have hb216 := rd_225_39 hz
    have hb217 := rd_225_40 hz
    have hb218 := rd_225_42 hz
    exact w_lv (sub_c rfl (sub_c rfl sub_n)) rfl ((key ((136 * (18 - 0) + 441312 : Int).toNat + 1)).1 0 z0 w0 ⟨by omega, by omega⟩ ⟨by omega, by omega⟩ hst (rfl) (rfl) (rfl) (rfl) (rfl) (rfl) (by first | (intro j hj; exfalso; omega) | (intro j hj; rw [hqt]; by_cases c : j = x1.toNat; (subst c; exact mu_eq); (rw [mu_ne (by omega)]; exact as1 j (by omega)))) (by first | exact as9 | rfl) (by omega))
  · skip
    refine r_c0 (pc' := 8) rfl rfl ?_
    exact r_rz rfl (by omega) (po_I hst ⟨by decide, by decide⟩ ⟨rfl, by omega, by omega, (by rfl)⟩)
