/-! methods, printed by wip/tools/vcg.py -/
/-- LoopGroundModel isSum -/
abbrev S_189v  : mS := []
abbrev E_189v (a0 : Int) (z0 w0 : mZ) (x y tx it mt tt ct : Option Nat) : Int → mZ → mZ → mP → Prop := fun v z w p => p = (pq x y tx it mt tt ct) ∧ z0 = z ∧ w0 = w ∧ 0 ≤ v ∧ v ≤ 1 ∧ ((v = 1 → a0 ≤ 18000) ∧ (v = 0 → 18000 < a0))
theorem m_189v {d : Nat} {z0 w0 : mZ} {x y tx it mt tt ct : Option Nat} (a0 : Int) (hz : rz z0) (hw : rw_ w0) (ha0 : (-9223372036854775808) ≤ a0 ∧ a0 ≤ 9223372036854775807) : wc (d + 1) 189 [.long (Int64.ofInt a0)] (mk z0 w0 (pq x y tx it mt tt ct)) (poI S_189v z0 w0 (E_189v a0 z0 w0 x y tx it mt tt ct)) := by
  have hst : st_ S_189v z0 w0 z0 w0 := st_rf hz hw
  refine w_m rfl rfl ?_
  refine r_ld (pc' := 1) rfl rfl rfl rfl ?_
  refine r_al (pc' := 4) rfl rfl rfl rfl ?_
  refine r_lgt (pc' := 8) rfl rfl rfl ⟨by omega, by omega⟩ ⟨by decide, by decide⟩ (fun hc2 => ?_) (fun hc2 => ?_)
  · skip
    refine r_c0 (pc' := 13) rfl rfl ?_
    exact r_rz rfl (by omega) (po_I hst ⟨by decide, by decide⟩ ⟨rfl, rfl, rfl, by omega, by omega, (by first | omega | assumption)⟩)
  · skip
    refine r_c0 (pc' := 9) rfl rfl ?_
    refine r_go rfl ?_
    exact r_rz rfl (by omega) (po_I hst ⟨by decide, by decide⟩ ⟨rfl, rfl, rfl, by omega, by omega, (by first | omega | assumption)⟩)
/-- LoopGroundModel layRow -/
abbrev S_180t  : mS := [(244, 244, 0, 18), (243, 243, 0, 17)]
abbrev E_180t (a1 : Int) (z0 w0 : mZ) (x y tx it mt tt ct : Option Nat) : mZ → mZ → mP → Prop := fun z w p => p = (pq x y tx it mt tt ct) ∧ ((∀ e : Nat, (e : Int) < rE z0 → z 243 e = (lnR z0 a1.toNat) e) ∧ ∀ e : Nat, (e : Int) ≤ rE z0 → z 244 e = sm (tr (rE z0) (lnR z0 a1.toNat)) e)
theorem m_180t {d : Nat} {z0 w0 : mZ} {x y tx it mt tt ct : Option Nat} (a1 : Int) (hz : rz z0) (hw : rw_ w0) (ha1 : 0 ≤ a1 ∧ a1 ≤ 7) (hsm : sm (tr (rE z0) (lnR z0 a1.toNat)) 18 ≤ 18000) : wc (d + 2) 180 [.ref 225, .int (Int32.ofInt a1)] (mk z0 w0 (pq x y tx it mt tt ct)) (poV S_180t z0 w0 (E_180t a1 z0 w0 x y tx it mt tt ct)) := by
  have hst : st_ S_180t z0 w0 z0 w0 := st_rf hz hw
  have hm26 := rd_225_26 hz
  have hrE : rE z0 = 3 * z0 225 26 / 2 := rfl
  have hnn : ∀ j : Nat, j < 18 → 0 ≤ (tr (rE z0) (lnR z0 a1.toNat)) j := fun j hj => by by_cases c : (j : Int) < rE z0; (rw [tr_l c]; have := rd_236 hz (i := 18 * a1.toNat + j) (by omega); exact this.1); (rw [tr_g (by omega)]; omega)
  have key : ∀ N : Nat, (∀ (x2 : Int) (z w : mZ), 0 ≤ x2 ∧ x2 ≤ 18 → st_ S_180t z0 w0 z w → (∀ j : Nat, (j : Int) < x2 → z 243 j = (lnR z0 a1.toNat) j) → (∀ j : Nat, (j : Int) ≤ x2 → z 244 j = sm (tr (rE z0) (lnR z0 a1.toNat)) j) → (x2 ≤ rE z0) → 49 * (18 - x2) + 41 < (N : Int) → wp_ (d + 1) 180 3 none (9, [(0, .ref 225), (1, .int (Int32.ofInt a1)), (2, .int (Int32.ofInt x2))], [], mk z w (pq x y tx it mt tt ct)) (poV S_180t z0 w0 (E_180t a1 z0 w0 x y tx it mt tt ct))) := by
    intro N
    induction N with
    | zero =>
      intro x2 z w
      intros; exfalso; omega
    | succ N ih =>
      have ih0 := ih; clear ih
      intro x2 z w  hx2 hst as1 as2 as3 hM
      refine r_ld (pc' := 10) rfl rfl rfl rfl ?_
      refine r_ld (pc' := 11) rfl rfl rfl rfl ?_
      have hb24 := rd_225_26 hz
      have hf25 : z 225 26 = z0 225 26 := (hst.2.2.1 _ _ (notS_c (by omega) (notS_c (by omega) notS_n)))
      refine r_cVI (pc' := 14) rfl rfl rfl rfl rfl sh_225 (m_161 (d := d)  hst.1 hst.2.1 ) (fun v26 z27 w28 p29 h30 hs31 hE32 => ?_)
      obtain ⟨rfl, rfl, rfl, hE32⟩ := hE32
      refine r_ige (pc' := 17) rfl rfl ⟨by omega, by omega⟩ ⟨by omega, by omega⟩ (fun hc34 => ?_) (fun hc34 => ?_)
      · skip
        exact r_ret rfl (po_V hst ⟨rfl, (by exact ⟨fun e he => as1 e (by omega), fun e he => as2 e (by omega)⟩)⟩)
      · skip
        refine r_ld (pc' := 18) rfl rfl rfl rfl ?_
        have hge : z0 236 (18 * a1 + x2).toNat = lnR z0 a1.toNat x2.toNat := by show _ = z0 236 (18 * a1.toNat + x2.toNat); rw [show (18 * a1 + x2).toNat = 18 * a1.toNat + x2.toNat by omega]
        have hgt := tr_l (E := rE z0) (f := (lnR z0 a1.toNat)) (e := x2.toNat) (by omega)
        have hle := sm_le (f := (tr (rE z0) (lnR z0 a1.toNat))) (k := x2.toNat + 1) 18 (by omega) hnn
        rw [sm_s] at hle
        have hn2 := sm_nn (f := (tr (rE z0) (lnR z0 a1.toNat))) x2.toNat (fun j hj => hnn j (by omega))
        have hn3 := hnn x2.toNat (by omega)
        have hb2 := as2 x2.toNat (by omega)
        refine r_gr (b := 243) (pc' := 21) rfl rfl sh_225 rfl pp_225_33 ?_
        refine r_ld (pc' := 22) rfl rfl rfl rfl ?_
        refine r_ld (pc' := 23) rfl rfl rfl rfl ?_
        refine r_zge (pc' := 26) rfl rfl ⟨by omega, by omega⟩ (fun hc35 => ?_) (fun hc35 => ?_)
        · skip
          refine r_ld (pc' := 37) rfl rfl rfl rfl ?_
          refine r_gr (b := 236) (pc' := 40) rfl rfl sh_225 rfl pp_225_19 ?_
          refine r_cb (pc' := 42) rfl (by decide) rfl ?_
          refine r_ld (pc' := 43) rfl rfl rfl rfl ?_
          refine r_mul (pc' := 44) rfl rfl ?_
          refine r_ld (pc' := 45) rfl rfl rfl rfl ?_
          refine r_add (pc' := 46) rfl rfl ?_
          have hb36 := rd_236 hz (i := ((18 * a1) + x2).toNat) (by omega)
          refine r_ia (pc' := 47) rfl rfl sh_236 rfl (by omega) (by omega) (hst.2.2.1 _ _ (notS_c (by omega) (notS_c (by omega) notS_n))) ?_
          refine r_is (pc' := 48) rfl rfl sh_243 rfl (by omega) (by omega) hst (inS_s (inS_0 (by omega) (by omega) (by omega) (by omega))) (wr_243 ⟨by omega, by omega⟩) (fun z37 hq38 hs39 => ?_)
          have hq47 := hq38
          refine r_ld (pc' := 49) rfl rfl rfl rfl ?_
          refine r_gr (b := 244) (pc' := 52) rfl rfl sh_225 rfl pp_225_34 ?_
          refine r_ld (pc' := 53) rfl rfl rfl rfl ?_
          refine r_c0 (pc' := 54) rfl rfl ?_
          refine r_add (pc' := 55) rfl rfl ?_
          refine r_ld (pc' := 56) rfl rfl rfl rfl ?_
          refine r_gr (b := 244) (pc' := 59) rfl rfl sh_225 rfl pp_225_34 ?_
          refine r_ld (pc' := 60) rfl rfl rfl rfl ?_
          have hb40 := rd_244 hst.1 (i := x2.toNat) (by omega)
          refine r_ia (pc' := 61) rfl rfl sh_244 rfl (by omega) (by omega) ((congrFun (congrFun hq38 _) _).trans (mu_ne (by omega))) ?_
          refine r_ld (pc' := 62) rfl rfl rfl rfl ?_
          refine r_gr (b := 243) (pc' := 65) rfl rfl sh_225 rfl pp_225_33 ?_
          refine r_ld (pc' := 66) rfl rfl rfl rfl ?_
          refine r_ia (pc' := 67) rfl rfl sh_243 rfl (by omega) (by omega) ((congrFun (congrFun hq38 _) _).trans mu_eq) ?_
          refine r_add (pc' := 68) rfl rfl ?_
          refine r_is (pc' := 69) rfl rfl sh_244 rfl (by omega) (by omega) hs39 (inS_0 (by omega) (by omega) (by omega) (by omega)) (wr_244 ⟨by omega, by omega⟩) (fun z41 hq42 hs43 => ?_)
          have hq68 := hq42
          refine r_inc (pc' := 72) (lv' := [(0, _), (1, _)]) rfl rfl rfl rfl rfl ?_
          refine r_go rfl ?_
          exact w_lv (sub_c rfl (sub_c rfl (sub_c rfl sub_n))) rfl (ih0 (x2 + 1) z41 w ⟨by omega, by omega⟩ hs43 (by first | (intro j hj; exfalso; omega) | (intro j hj; rw [hq68, mu_ne (by omega), hq47]; by_cases c : j = x2.toNat; (subst c; rw [mu_eq]; omega); (rw [mu_ne (by omega)]; exact as1 j (by omega)))) (by first | (intro j hj; rw [show j = 0 by omega, hq6]; exact mu_eq) | (intro j hj; rw [hq68]; by_cases c : j = (x2 + 1).toNat; (subst c; rw [mu_eq, show (x2 + 1).toNat = x2.toNat + 1 by omega, sm_s]; omega); (rw [mu_ne (by omega), hq47, mu_ne (by omega)]; exact as2 j (by omega)))) (by first | omega | assumption) (by omega))
        · exfalso; omega
  refine w_m rfl rfl ?_
  refine r_ld (pc' := 1) rfl rfl rfl rfl ?_
  refine r_gr (b := 244) (pc' := 4) rfl rfl sh_225 rfl pp_225_34 ?_
  refine r_c0 (pc' := 5) rfl rfl ?_
  refine r_c0 (pc' := 6) rfl rfl ?_
  refine r_is (pc' := 7) rfl rfl sh_244 rfl (by omega) (by omega) hst (inS_0 (by omega) (by omega) (by omega) (by omega)) (wr_244 ⟨by omega, by omega⟩) (fun z44 hq45 hs46 => ?_)
  have hq6 := hq45
  refine r_c0 (pc' := 8) rfl rfl ?_
  refine r_st (pc' := 9) (lv' := [(2, _), (0, _), (1, _)]) rfl rfl rfl rfl ?_
  exact w_lv (sub_c rfl (sub_c rfl (sub_c rfl sub_n))) rfl ((key ((49 * (18 - 0) + 41 : Int).toNat + 1)) 0 z44 w0 ⟨by omega, by omega⟩ hs46 (by first | (intro j hj; exfalso; omega) | (intro j hj; rw [hq68, mu_ne (by omega), hq47]; by_cases c : j = x2.toNat; (subst c; rw [mu_eq]; omega); (rw [mu_ne (by omega)]; exact as1 j (by omega)))) (by first | (intro j hj; rw [show j = 0 by omega, hq6]; exact mu_eq) | (intro j hj; rw [hq68]; by_cases c : j = (x2 + 1).toNat; (subst c; rw [mu_eq, show (x2 + 1).toNat = x2.toNat + 1 by omega, sm_s]; omega); (rw [mu_ne (by omega), hq47, mu_ne (by omega)]; exact as2 j (by omega)))) (by first | omega | assumption) (by omega))
/-- LoopGroundModel layRow -/
abbrev S_180n  : mS := [(244, 244, 0, 18), (243, 243, 0, 17)]
abbrev E_180n (a1 : Int) (z0 w0 : mZ) (x y tx it mt tt ct : Option Nat) : mZ → mZ → mP → Prop := fun z w p => p = (pq x y tx it mt tt ct) ∧ ((∀ e : Nat, (e : Int) < rE z0 → z 243 e = (w0 270) e) ∧ ∀ e : Nat, (e : Int) ≤ rE z0 → z 244 e = sm (tr (rE z0) (w0 270)) e)
theorem m_180n {d : Nat} {z0 w0 : mZ} {x y tx it mt tt ct : Option Nat} (a1 : Int) (hz : rz z0) (hw : rw_ w0) (ha1 : (-1) ≤ a1 ∧ a1 ≤ (-1)) (hsm : sm (tr (rE z0) (w0 270)) 18 ≤ 18000) : wc (d + 2) 180 [.ref 225, .int (Int32.ofInt a1)] (mk z0 w0 (pq x y tx it mt tt ct)) (poV S_180n z0 w0 (E_180n a1 z0 w0 x y tx it mt tt ct)) := by
  have hst : st_ S_180n z0 w0 z0 w0 := st_rf hz hw
  have hm26 := rd_225_26 hz
  have hrE : rE z0 = 3 * z0 225 26 / 2 := rfl
  have hnn : ∀ j : Nat, j < 18 → 0 ≤ (tr (rE z0) (w0 270)) j := fun j hj => by by_cases c : (j : Int) < rE z0; (rw [tr_l c]; exact (rd_270 hw (i := j) (by omega)).1); (rw [tr_g (by omega)]; omega)
  have key : ∀ N : Nat, (∀ (x2 : Int) (z w : mZ), 0 ≤ x2 ∧ x2 ≤ 18 → st_ S_180n z0 w0 z w → (∀ j : Nat, (j : Int) < x2 → z 243 j = (w0 270) j) → (∀ j : Nat, (j : Int) ≤ x2 → z 244 j = sm (tr (rE z0) (w0 270)) j) → (x2 ≤ rE z0) → 49 * (18 - x2) + 41 < (N : Int) → wp_ (d + 1) 180 3 none (9, [(0, .ref 225), (1, .int (Int32.ofInt a1)), (2, .int (Int32.ofInt x2))], [], mk z w (pq x y tx it mt tt ct)) (poV S_180n z0 w0 (E_180n a1 z0 w0 x y tx it mt tt ct))) := by
    intro N
    induction N with
    | zero =>
      intro x2 z w
      intros; exfalso; omega
    | succ N ih =>
      have ih0 := ih; clear ih
      intro x2 z w  hx2 hst as1 as2 as3 hM
      refine r_ld (pc' := 10) rfl rfl rfl rfl ?_
      refine r_ld (pc' := 11) rfl rfl rfl rfl ?_
      have hb30 := rd_225_26 hz
      have hf31 : z 225 26 = z0 225 26 := (hst.2.2.1 _ _ (notS_c (by omega) (notS_c (by omega) notS_n)))
      refine r_cVI (pc' := 14) rfl rfl rfl rfl rfl sh_225 (m_161 (d := d)  hst.1 hst.2.1 ) (fun v32 z33 w34 p35 h36 hs37 hE38 => ?_)
      obtain ⟨rfl, rfl, rfl, hE38⟩ := hE38
      refine r_ige (pc' := 17) rfl rfl ⟨by omega, by omega⟩ ⟨by omega, by omega⟩ (fun hc40 => ?_) (fun hc40 => ?_)
      · skip
        exact r_ret rfl (po_V hst ⟨rfl, (by exact ⟨fun e he => as1 e (by omega), fun e he => as2 e (by omega)⟩)⟩)
      · skip
        refine r_ld (pc' := 18) rfl rfl rfl rfl ?_
        have hge : w0 270 x2.toNat = w0 270 x2.toNat := rfl
        have hgt := tr_l (E := rE z0) (f := (w0 270)) (e := x2.toNat) (by omega)
        have hle := sm_le (f := (tr (rE z0) (w0 270))) (k := x2.toNat + 1) 18 (by omega) hnn
        rw [sm_s] at hle
        have hn2 := sm_nn (f := (tr (rE z0) (w0 270))) x2.toNat (fun j hj => hnn j (by omega))
        have hn3 := hnn x2.toNat (by omega)
        have hb2 := as2 x2.toNat (by omega)
        refine r_gr (b := 243) (pc' := 21) rfl rfl sh_225 rfl pp_225_33 ?_
        refine r_ld (pc' := 22) rfl rfl rfl rfl ?_
        refine r_ld (pc' := 23) rfl rfl rfl rfl ?_
        refine r_zge (pc' := 26) rfl rfl ⟨by omega, by omega⟩ (fun hc41 => ?_) (fun hc41 => ?_)
        · exfalso; omega
        · skip
          refine r_ld (pc' := 27) rfl rfl rfl rfl ?_
          refine r_gr (b := 270) (pc' := 30) rfl rfl sh_225 rfl pp_225_71 ?_
          refine r_ld (pc' := 31) rfl rfl rfl rfl ?_
          have hb42 := rd_270 hw (i := x2.toNat) (by omega)
          refine r_la (pc' := 32) rfl rfl sh_270 rfl (by omega) (by omega) (hst.2.2.2 _ _ (notS_c (by omega) (notS_c (by omega) notS_n))) ?_
          refine r_l2i (pc' := 33) rfl rfl ?_
          refine w_hxi (fun v43 h44 h45 => ?_)
          refine r_go rfl ?_
          refine r_is (pc' := 48) rfl rfl sh_243 rfl (by omega) (by omega) hst (inS_s (inS_0 (by omega) (by omega) (by omega) (by omega))) (wr_243 ⟨by omega, by omega⟩) (fun z46 hq47 hs48 => ?_)
          have hq47 := hq47
          refine r_ld (pc' := 49) rfl rfl rfl rfl ?_
          refine r_gr (b := 244) (pc' := 52) rfl rfl sh_225 rfl pp_225_34 ?_
          refine r_ld (pc' := 53) rfl rfl rfl rfl ?_
          refine r_c0 (pc' := 54) rfl rfl ?_
          refine r_add (pc' := 55) rfl rfl ?_
          refine r_ld (pc' := 56) rfl rfl rfl rfl ?_
          refine r_gr (b := 244) (pc' := 59) rfl rfl sh_225 rfl pp_225_34 ?_
          refine r_ld (pc' := 60) rfl rfl rfl rfl ?_
          have hb49 := rd_244 hst.1 (i := x2.toNat) (by omega)
          refine r_ia (pc' := 61) rfl rfl sh_244 rfl (by omega) (by omega) ((congrFun (congrFun hq47 _) _).trans (mu_ne (by omega))) ?_
          refine r_ld (pc' := 62) rfl rfl rfl rfl ?_
          refine r_gr (b := 243) (pc' := 65) rfl rfl sh_225 rfl pp_225_33 ?_
          refine r_ld (pc' := 66) rfl rfl rfl rfl ?_
          refine r_ia (pc' := 67) rfl rfl sh_243 rfl (by omega) (by omega) ((congrFun (congrFun hq47 _) _).trans mu_eq) ?_
          refine r_add (pc' := 68) rfl rfl ?_
          refine w_hxi (fun v50 h51 h52 => ?_)
          refine r_is (pc' := 69) rfl rfl sh_244 rfl (by omega) (by omega) hs48 (inS_0 (by omega) (by omega) (by omega) (by omega)) (wr_244 ⟨by omega, by omega⟩) (fun z53 hq54 hs55 => ?_)
          have hq68 := hq54
          refine r_inc (pc' := 72) (lv' := [(0, _), (1, _)]) rfl rfl rfl rfl rfl ?_
          refine r_go rfl ?_
          exact w_lv (sub_c rfl (sub_c rfl (sub_c rfl sub_n))) rfl (ih0 (x2 + 1) z53 w ⟨by omega, by omega⟩ hs55 (by first | (intro j hj; exfalso; omega) | (intro j hj; rw [hq68, mu_ne (by omega), hq47]; by_cases c : j = x2.toNat; (subst c; rw [mu_eq]; omega); (rw [mu_ne (by omega)]; exact as1 j (by omega)))) (by first | (intro j hj; rw [show j = 0 by omega, hq6]; exact mu_eq) | (intro j hj; rw [hq68]; by_cases c : j = (x2 + 1).toNat; (subst c; rw [mu_eq, show (x2 + 1).toNat = x2.toNat + 1 by omega, sm_s]; omega); (rw [mu_ne (by omega), hq47, mu_ne (by omega)]; exact as2 j (by omega)))) (by first | omega | assumption) (by omega))
  refine w_m rfl rfl ?_
  refine r_ld (pc' := 1) rfl rfl rfl rfl ?_
  refine r_gr (b := 244) (pc' := 4) rfl rfl sh_225 rfl pp_225_34 ?_
  refine r_c0 (pc' := 5) rfl rfl ?_
  refine r_c0 (pc' := 6) rfl rfl ?_
  refine r_is (pc' := 7) rfl rfl sh_244 rfl (by omega) (by omega) hst (inS_0 (by omega) (by omega) (by omega) (by omega)) (wr_244 ⟨by omega, by omega⟩) (fun z56 hq57 hs58 => ?_)
  have hq6 := hq57
  refine r_c0 (pc' := 8) rfl rfl ?_
  refine r_st (pc' := 9) (lv' := [(2, _), (0, _), (1, _)]) rfl rfl rfl rfl ?_
  exact w_lv (sub_c rfl (sub_c rfl (sub_c rfl sub_n))) rfl ((key ((49 * (18 - 0) + 41 : Int).toNat + 1)) 0 z56 w0 ⟨by omega, by omega⟩ hs58 (by first | (intro j hj; exfalso; omega) | (intro j hj; rw [hq68, mu_ne (by omega), hq47]; by_cases c : j = x2.toNat; (subst c; rw [mu_eq]; omega); (rw [mu_ne (by omega)]; exact as1 j (by omega)))) (by first | (intro j hj; rw [show j = 0 by omega, hq6]; exact mu_eq) | (intro j hj; rw [hq68]; by_cases c : j = (x2 + 1).toNat; (subst c; rw [mu_eq, show (x2 + 1).toNat = x2.toNat + 1 by omega, sm_s]; omega); (rw [mu_ne (by omega), hq47, mu_ne (by omega)]; exact as2 j (by omega)))) (by first | omega | assumption) (by omega))
/-- LoopGroundModel sumOf -/
abbrev S_181t  : mS := []
abbrev E_181t (a1 : Int) (z0 w0 : mZ) (x y tx it mt tt ct : Option Nat) : Int → mZ → mZ → mP → Prop := fun v z w p => p = (pq x y tx it mt tt ct) ∧ z0 = z ∧ w0 = w ∧ 0 ≤ v ∧ v ≤ 1800000000000000 ∧ (v = sm (tr (rE z0) (lnR z0 a1.toNat)) 18)
theorem m_181t {d : Nat} {z0 w0 : mZ} {x y tx it mt tt ct : Option Nat} (a1 : Int) (hz : rz z0) (hw : rw_ w0) (ha1 : 0 ≤ a1 ∧ a1 ≤ 7) : wc (d + 2) 181 [.ref 225, .int (Int32.ofInt a1)] (mk z0 w0 (pq x y tx it mt tt ct)) (poL S_181t z0 w0 (E_181t a1 z0 w0 x y tx it mt tt ct)) := by
  have hst : st_ S_181t z0 w0 z0 w0 := st_rf hz hw
  have hm26 := rd_225_26 hz
  have hrE : rE z0 = 3 * z0 225 26 / 2 := rfl
  have hnn : ∀ j : Nat, j < 18 → 0 ≤ (tr (rE z0) (lnR z0 a1.toNat)) j := fun j hj => by by_cases c : (j : Int) < rE z0; (rw [tr_l c]; have := rd_236 hz (i := 18 * a1.toNat + j) (by omega); exact this.1); (rw [tr_g (by omega)]; omega)
  have key : ∀ N : Nat, (∀ (x2 x4 : Int) , 0 ≤ x2 ∧ x2 ≤ 1800000000000000 → 0 ≤ x4 ∧ x4 ≤ 18 → (x2 = sm (tr (rE z0) (lnR z0 a1.toNat)) x4.toNat ∧ x2 ≤ 100000000000000 * x4) → (x4 ≤ rE z0) → 31 * (18 - x4) + 26 < (N : Int) → wp_ (d + 1) 181 5 (some .long) (5, [(0, .ref 225), (1, .int (Int32.ofInt a1)), (2, .long (Int64.ofInt x2)), (4, .int (Int32.ofInt x4))], [], mk z0 w0 (pq x y tx it mt tt ct)) (poL S_181t z0 w0 (E_181t a1 z0 w0 x y tx it mt tt ct))) := by
    intro N
    induction N with
    | zero =>
      intro x2 x4 
      intros; exfalso; omega
    | succ N ih =>
      have ih0 := ih; clear ih
      intro x2 x4  hx2 hx4 as1 as2 hM
      refine r_ld (pc' := 7) rfl rfl rfl rfl ?_
      refine r_ld (pc' := 8) rfl rfl rfl rfl ?_
      have hb13 := rd_225_26 hz
      refine r_cVI (pc' := 11) rfl rfl rfl rfl rfl sh_225 (m_161 (d := d)  hst.1 hst.2.1 ) (fun v14 z15 w16 p17 h18 hs19 hE20 => ?_)
      obtain ⟨rfl, rfl, rfl, hE20⟩ := hE20
      refine r_ige (pc' := 14) rfl rfl ⟨by omega, by omega⟩ ⟨by omega, by omega⟩ (fun hc22 => ?_) (fun hc22 => ?_)
      · skip
        refine r_ld (pc' := 51) rfl rfl rfl rfl ?_
        exact r_rl rfl (po_L hst ⟨by omega, by omega⟩ ⟨rfl, rfl, rfl, by omega, by omega, (by rw [sm_tr (by omega) (by omega), as1.1, show (rE z0).toNat = x4.toNat by omega])⟩)
      · skip
        have hge : z0 236 (18 * a1 + x4).toNat = lnR z0 a1.toNat x4.toNat := by show _ = z0 236 (18 * a1.toNat + x4.toNat); rw [show (18 * a1 + x4).toNat = 18 * a1.toNat + x4.toNat by omega]
        have hgt := tr_l (E := rE z0) (f := (lnR z0 a1.toNat)) (e := x4.toNat) (by omega)
        have hn3 := hnn x4.toNat (by omega)
        refine r_ld (pc' := 15) rfl rfl rfl rfl ?_
        refine r_ld (pc' := 16) rfl rfl rfl rfl ?_
        refine r_zge (pc' := 19) rfl rfl ⟨by omega, by omega⟩ (fun hc23 => ?_) (fun hc23 => ?_)
        · skip
          refine r_ld (pc' := 30) rfl rfl rfl rfl ?_
          refine r_gr (b := 236) (pc' := 33) rfl rfl sh_225 rfl pp_225_19 ?_
          refine r_cb (pc' := 35) rfl (by decide) rfl ?_
          refine r_ld (pc' := 36) rfl rfl rfl rfl ?_
          refine r_mul (pc' := 37) rfl rfl ?_
          refine r_ld (pc' := 39) rfl rfl rfl rfl ?_
          refine r_add (pc' := 40) rfl rfl ?_
          have hb24 := rd_236 hz (i := ((18 * a1) + x4).toNat) (by omega)
          refine r_ia (pc' := 41) rfl rfl sh_236 rfl (by omega) (by omega) rfl ?_
          refine r_i2l (pc' := 42) rfl rfl ⟨by omega, by omega⟩ ?_
          refine r_ladd (pc' := 43) rfl rfl ?_
          refine r_st (pc' := 44) (lv' := [(2, _), (0, _), (1, _), (4, _)]) rfl rfl rfl rfl ?_
          refine r_inc (pc' := 47) (lv' := [(2, _), (0, _), (1, _)]) rfl rfl rfl rfl rfl ?_
          refine r_go rfl ?_
          exact w_lv (sub_c rfl (sub_c rfl (sub_c rfl (sub_c rfl sub_n)))) rfl (ih0 (x2 + (z0 236 ((18 * a1) + x4).toNat)) (x4 + 1) ⟨by omega, by omega⟩ ⟨by omega, by omega⟩ (by first | exact ⟨rfl, by omega⟩ | (refine ⟨?_, by omega⟩; rw [show (x4 + 1).toNat = x4.toNat + 1 by omega, sm_s]; omega)) (by first | omega | assumption) (by omega))
        · exfalso; omega
  refine w_m rfl rfl ?_
  refine r_lc0 (pc' := 1) rfl rfl ?_
  refine r_st (pc' := 2) (lv' := [(2, _), (0, _), (1, _)]) rfl rfl rfl rfl ?_
  refine r_c0 (pc' := 3) rfl rfl ?_
  refine r_st (pc' := 5) (lv' := [(4, _), (2, _), (0, _), (1, _)]) rfl rfl rfl rfl ?_
  exact w_lv (sub_c rfl (sub_c rfl (sub_c rfl (sub_c rfl sub_n)))) rfl ((key ((31 * (18 - 0) + 26 : Int).toNat + 1)) 0 0 ⟨by omega, by omega⟩ ⟨by omega, by omega⟩ (by first | exact ⟨rfl, by omega⟩ | (refine ⟨?_, by omega⟩; rw [show (x4 + 1).toNat = x4.toNat + 1 by omega, sm_s]; omega)) (by first | omega | assumption) (by omega))
/-- LoopGroundModel sumOf -/
abbrev S_181n  : mS := []
abbrev E_181n (a1 : Int) (z0 w0 : mZ) (x y tx it mt tt ct : Option Nat) : Int → mZ → mZ → mP → Prop := fun v z w p => p = (pq x y tx it mt tt ct) ∧ z0 = z ∧ w0 = w ∧ 0 ≤ v ∧ v ≤ 1800000000000000 ∧ (v = sm (tr (rE z0) (w0 270)) 18)
theorem m_181n {d : Nat} {z0 w0 : mZ} {x y tx it mt tt ct : Option Nat} (a1 : Int) (hz : rz z0) (hw : rw_ w0) (ha1 : (-1) ≤ a1 ∧ a1 ≤ (-1)) : wc (d + 2) 181 [.ref 225, .int (Int32.ofInt a1)] (mk z0 w0 (pq x y tx it mt tt ct)) (poL S_181n z0 w0 (E_181n a1 z0 w0 x y tx it mt tt ct)) := by
  have hst : st_ S_181n z0 w0 z0 w0 := st_rf hz hw
  have hm26 := rd_225_26 hz
  have hrE : rE z0 = 3 * z0 225 26 / 2 := rfl
  have hnn : ∀ j : Nat, j < 18 → 0 ≤ (tr (rE z0) (w0 270)) j := fun j hj => by by_cases c : (j : Int) < rE z0; (rw [tr_l c]; exact (rd_270 hw (i := j) (by omega)).1); (rw [tr_g (by omega)]; omega)
  have key : ∀ N : Nat, (∀ (x2 x4 : Int) , 0 ≤ x2 ∧ x2 ≤ 1800000000000000 → 0 ≤ x4 ∧ x4 ≤ 18 → (x2 = sm (tr (rE z0) (w0 270)) x4.toNat ∧ x2 ≤ 100000000000000 * x4) → (x4 ≤ rE z0) → 31 * (18 - x4) + 26 < (N : Int) → wp_ (d + 1) 181 5 (some .long) (5, [(0, .ref 225), (1, .int (Int32.ofInt a1)), (2, .long (Int64.ofInt x2)), (4, .int (Int32.ofInt x4))], [], mk z0 w0 (pq x y tx it mt tt ct)) (poL S_181n z0 w0 (E_181n a1 z0 w0 x y tx it mt tt ct))) := by
    intro N
    induction N with
    | zero =>
      intro x2 x4 
      intros; exfalso; omega
    | succ N ih =>
      have ih0 := ih; clear ih
      intro x2 x4  hx2 hx4 as1 as2 hM
      refine r_ld (pc' := 7) rfl rfl rfl rfl ?_
      refine r_ld (pc' := 8) rfl rfl rfl rfl ?_
      have hb13 := rd_225_26 hz
      refine r_cVI (pc' := 11) rfl rfl rfl rfl rfl sh_225 (m_161 (d := d)  hst.1 hst.2.1 ) (fun v14 z15 w16 p17 h18 hs19 hE20 => ?_)
      obtain ⟨rfl, rfl, rfl, hE20⟩ := hE20
      refine r_ige (pc' := 14) rfl rfl ⟨by omega, by omega⟩ ⟨by omega, by omega⟩ (fun hc22 => ?_) (fun hc22 => ?_)
      · skip
        refine r_ld (pc' := 51) rfl rfl rfl rfl ?_
        exact r_rl rfl (po_L hst ⟨by omega, by omega⟩ ⟨rfl, rfl, rfl, by omega, by omega, (by rw [sm_tr (by omega) (by omega), as1.1, show (rE z0).toNat = x4.toNat by omega])⟩)
      · skip
        have hge : w0 270 x4.toNat = w0 270 x4.toNat := rfl
        have hgt := tr_l (E := rE z0) (f := (w0 270)) (e := x4.toNat) (by omega)
        have hn3 := hnn x4.toNat (by omega)
        refine r_ld (pc' := 15) rfl rfl rfl rfl ?_
        refine r_ld (pc' := 16) rfl rfl rfl rfl ?_
        refine r_zge (pc' := 19) rfl rfl ⟨by omega, by omega⟩ (fun hc23 => ?_) (fun hc23 => ?_)
        · exfalso; omega
        · skip
          refine r_ld (pc' := 20) rfl rfl rfl rfl ?_
          refine r_gr (b := 270) (pc' := 23) rfl rfl sh_225 rfl pp_225_71 ?_
          refine r_ld (pc' := 25) rfl rfl rfl rfl ?_
          have hb24 := rd_270 hw (i := x4.toNat) (by omega)
          refine r_la (pc' := 26) rfl rfl sh_270 rfl (by omega) (by omega) rfl ?_
          refine r_go rfl ?_
          refine r_ladd (pc' := 43) rfl rfl ?_
          refine r_st (pc' := 44) (lv' := [(2, _), (0, _), (1, _), (4, _)]) rfl rfl rfl rfl ?_
          refine r_inc (pc' := 47) (lv' := [(2, _), (0, _), (1, _)]) rfl rfl rfl rfl rfl ?_
          refine r_go rfl ?_
          exact w_lv (sub_c rfl (sub_c rfl (sub_c rfl (sub_c rfl sub_n)))) rfl (ih0 (x2 + (w0 270 x4.toNat)) (x4 + 1) ⟨by omega, by omega⟩ ⟨by omega, by omega⟩ (by first | exact ⟨rfl, by omega⟩ | (refine ⟨?_, by omega⟩; rw [show (x4 + 1).toNat = x4.toNat + 1 by omega, sm_s]; omega)) (by first | omega | assumption) (by omega))
  refine w_m rfl rfl ?_
  refine r_lc0 (pc' := 1) rfl rfl ?_
  refine r_st (pc' := 2) (lv' := [(2, _), (0, _), (1, _)]) rfl rfl rfl rfl ?_
  refine r_c0 (pc' := 3) rfl rfl ?_
  refine r_st (pc' := 5) (lv' := [(4, _), (2, _), (0, _), (1, _)]) rfl rfl rfl rfl ?_
  exact w_lv (sub_c rfl (sub_c rfl (sub_c rfl (sub_c rfl sub_n)))) rfl ((key ((31 * (18 - 0) + 26 : Int).toNat + 1)) 0 0 ⟨by omega, by omega⟩ ⟨by omega, by omega⟩ (by first | exact ⟨rfl, by omega⟩ | (refine ⟨?_, by omega⟩; rw [show (x4 + 1).toNat = x4.toNat + 1 by omega, sm_s]; omega)) (by first | omega | assumption) (by omega))
/-- LoopGroundModel trace -/
abbrev S_193t  : mS := [(244, 244, 0, 18), (243, 243, 0, 17), (225, 225, 42, 42), (225, 225, 38, 38), (225, 225, 39, 39), (246, 246, 0, 17999), (225, 225, 40, 40)]
abbrev E_193t (a1 : Int) (z0 w0 : mZ) (x y tx it mt tt ct : Option Nat) : mZ → mZ → mP → Prop := fun z w p => p = (pq x y tx it mt tt ct)
theorem m_193t {d : Nat} {z0 w0 : mZ} {x y tx it mt tt ct : Option Nat} (a1 : Int) (hz : rz z0) (hw : rw_ w0) (ha1 : 0 ≤ a1 ∧ a1 ≤ 7) (hrw : RW z0) (hft : FT (z0 225 26).toNat (vT (z0 235)) (tr (rE z0) (lnR z0 a1.toNat))) (hsm : sm (tr (rE z0) (lnR z0 a1.toNat)) 18 ≤ 18000) : wc (d + 4) 193 [.ref 225, .int (Int32.ofInt a1)] (mk z0 w0 (pq x y tx it mt tt ct)) (poV S_193t z0 w0 (E_193t a1 z0 w0 x y tx it mt tt ct)) := by
  have hst : st_ S_193t z0 w0 z0 w0 := st_rf hz hw
  have hz78 := rd_225_26 hz
  have hm26 := rd_225_26 hz
  have hrE : rE z0 = 3 * z0 225 26 / 2 := rfl
  have key : ∀ N : Nat, (∀ (x2 : Int) (z w : mZ), 0 ≤ x2 ∧ x2 ≤ 18 → st_ S_193t z0 w0 z w → z 225 38 = z0 225 38 → z 225 39 = z0 225 39 → z 225 40 = z0 225 40 → ((∀ e : Nat, (e : Int) < rE z0 → z 243 e = (lnR z0 a1.toNat) e) ∧ ∀ e : Nat, (e : Int) ≤ rE z0 → z 244 e = sm (tr (rE z0) (lnR z0 a1.toNat)) e) → (z 225 42 = 0) → (x2 ≤ rE z0) → 70 * (18 - x2) + 20061 < (N : Int) → wp_ (d + 3) 193 4 none (12, [(0, .ref 225), (2, .int (Int32.ofInt x2))], [], mk z w (pq x y tx it mt tt ct)) (poV S_193t z0 w0 (E_193t a1 z0 w0 x y tx it mt tt ct))) ∧ (∀ (x2 : Int) (z w : mZ), 0 ≤ x2 ∧ x2 ≤ 18 → st_ S_193t z0 w0 z w → z 225 38 = z0 225 38 → z 225 39 = z0 225 39 → z 225 40 = z0 225 40 → ((∀ e : Nat, (e : Int) < rE z0 → z 243 e = (lnR z0 a1.toNat) e) ∧ ∀ e : Nat, (e : Int) ≤ rE z0 → z 244 e = sm (tr (rE z0) (lnR z0 a1.toNat)) e) → (z 225 42 = 0) → (x2 ≤ rE z0 ∧ (x2 < rE z0 → ¬ z 243 x2.toNat = 0)) → 20050 < (N : Int) → wp_ (d + 3) 193 4 none (35, [(0, .ref 225), (2, .int (Int32.ofInt x2))], [], mk z w (pq x y tx it mt tt ct)) (poV S_193t z0 w0 (E_193t a1 z0 w0 x y tx it mt tt ct))) ∧ (∀ (x2 x3 : Int) (z w : mZ), 0 ≤ x2 ∧ x2 ≤ 17 → 0 ≤ x3 ∧ x3 ≤ 1 → st_ S_193t z0 w0 z w → ((∀ e : Nat, (e : Int) < rE z0 → z 243 e = (lnR z0 a1.toNat) e) ∧ ∀ e : Nat, (e : Int) ≤ rE z0 → z 244 e = sm (tr (rE z0) (lnR z0 a1.toNat)) e) → (cu z = tk (z0 235) (z0 240) (tr (rE z0) (lnR z0 a1.toNat)) ((z0 241 x2.toNat).toNat, 0) (z 225 42).toNat) → (∀ j : Nat, 0 < j → j < (z 225 42).toNat → tk (z0 235) (z0 240) (tr (rE z0) (lnR z0 a1.toNat)) ((z0 241 x2.toNat).toNat, 0) j ≠ ((z0 241 x2.toNat).toNat, 0)) → (x3 = 1 → (z 225 42 = 0 ∨ cu z ≠ ((z0 241 x2.toNat).toNat, 0))) → (vd (z0 225 26) (z0 235) (tr (rE z0) (lnR z0 a1.toNat)) ((z0 241 x2.toNat).toNat, 0) ∧ x2 < rE z0 ∧ 0 ≤ z0 241 x2.toNat) → 18001 - z 225 42 < (N : Int) → wp_ (d + 3) 193 4 none (61, [(0, .ref 225), (2, .int (Int32.ofInt x2)), (3, .int (Int32.ofInt x3))], [], mk z w (pq x y tx it mt tt ct)) (poV S_193t z0 w0 (E_193t a1 z0 w0 x y tx it mt tt ct))) := by
    intro N
    induction N with
    | zero =>
      refine ⟨?_, ?_, ?_⟩
      · intro x2 z w
        intros; exfalso; omega
      · intro x2 z w
        intros; exfalso; omega
      · intro x2 x3 z w
        intro _h0 _h1 hst
        have hb79 := rd_225_42 hst.1
        intros; exfalso; omega
    | succ N ih =>
      obtain ⟨ih0, ih1, ih2⟩ := ih
      refine ⟨?_, ?_, ?_⟩
      · intro x2 z w  hx2 hst un_z_225_38 un_z_225_39 un_z_225_40 as0 as1 as2 hM
        refine r_ld (pc' := 13) rfl rfl rfl rfl ?_
        refine r_ld (pc' := 14) rfl rfl rfl rfl ?_
        have hb80 := rd_225_26 hz
        have hf81 : z 225 26 = z0 225 26 := (hst.2.2.1 _ _ (notS_c (by omega) (notS_c (by omega) (notS_c (by omega) (notS_c (by omega) (notS_c (by omega) (notS_c (by omega) (notS_c (by omega) notS_n))))))))
        refine r_cVI (pc' := 17) rfl rfl rfl rfl rfl sh_225 (m_161 (d := d + 2)  hst.1 hst.2.1 ) (fun v82 z83 w84 p85 h86 hs87 hE88 => ?_)
        obtain ⟨rfl, rfl, rfl, hE88⟩ := hE88
        refine r_ige (pc' := 20) rfl rfl ⟨by omega, by omega⟩ ⟨by omega, by omega⟩ (fun hc90 => ?_) (fun hc90 => ?_)
        · skip
          have hb91 := rd_225_42 hst.1
          have hb92 := rd_225_38 hz
          have hf93 : z 225 38 = z0 225 38 := un_z_225_38
          have hb94 := rd_225_39 hz
          have hf95 : z 225 39 = z0 225 39 := un_z_225_39
          have hb96 := rd_225_40 hz
          exact w_lv (sub_c rfl (sub_c rfl sub_n)) rfl (ih1 x2 z w ⟨by omega, by omega⟩ hst (un_z_225_38) (un_z_225_39) (un_z_225_40) (by first | exact as0 | exact hlr | (simp only [hf93, hf95]; exact as0) | (simp only [hf93, hf95]; exact hlr)) (by first | omega | assumption | (simp only [hf93, hf95]; assumption)) (by first | omega | assumption | (simp only [hf93, hf95]; assumption)) (by omega))
        · skip
          refine r_ld (pc' := 21) rfl rfl rfl rfl ?_
          refine r_gr (b := 243) (pc' := 24) rfl rfl sh_225 rfl pp_225_33 ?_
          refine r_ld (pc' := 25) rfl rfl rfl rfl ?_
          have hb97 := rd_243 hst.1 (i := x2.toNat) (by omega)
          refine r_ia (pc' := 26) rfl rfl sh_243 rfl (by omega) (by omega) rfl ?_
          refine r_zne (pc' := 29) rfl rfl ⟨by omega, by omega⟩ (fun hc98 => ?_) (fun hc98 => ?_)
          · skip
            have hb99 := rd_225_42 hst.1
            have hb100 := rd_225_38 hz
            have hf101 : z 225 38 = z0 225 38 := un_z_225_38
            have hb102 := rd_225_39 hz
            have hf103 : z 225 39 = z0 225 39 := un_z_225_39
            have hb104 := rd_225_40 hz
            exact w_lv (sub_c rfl (sub_c rfl sub_n)) rfl (ih1 x2 z w ⟨by omega, by omega⟩ hst (un_z_225_38) (un_z_225_39) (un_z_225_40) (by first | exact as0 | exact hlr | (simp only [hf101, hf103]; exact as0) | (simp only [hf101, hf103]; exact hlr)) (by first | omega | assumption | (simp only [hf101, hf103]; assumption)) (by first | omega | assumption | (simp only [hf101, hf103]; assumption)) (by omega))
          · skip
            refine r_inc (pc' := 32) (lv' := [(0, _)]) rfl rfl rfl rfl rfl ?_
            refine r_go rfl ?_
            have hb105 := rd_225_42 hst.1
            have hb106 := rd_225_38 hz
            have hf107 : z 225 38 = z0 225 38 := un_z_225_38
            have hb108 := rd_225_39 hz
            have hf109 : z 225 39 = z0 225 39 := un_z_225_39
            have hb110 := rd_225_40 hz
            exact w_lv (sub_c rfl (sub_c rfl sub_n)) rfl (ih0 (x2 + 1) z w ⟨by omega, by omega⟩ hst (un_z_225_38) (un_z_225_39) (un_z_225_40) (by first | exact as0 | exact hlr | (simp only [hf107, hf109]; exact as0) | (simp only [hf107, hf109]; exact hlr)) (by first | omega | assumption | (simp only [hf107, hf109]; assumption)) (by first | omega | assumption | (simp only [hf107, hf109]; assumption)) (by omega))
      · intro x2 z w  hx2 hst un_z_225_38 un_z_225_39 un_z_225_40 as0 as1 as2 hM
        refine r_ld (pc' := 36) rfl rfl rfl rfl ?_
        refine r_ld (pc' := 37) rfl rfl rfl rfl ?_
        have hb111 := rd_225_26 hz
        have hf112 : z 225 26 = z0 225 26 := (hst.2.2.1 _ _ (notS_c (by omega) (notS_c (by omega) (notS_c (by omega) (notS_c (by omega) (notS_c (by omega) (notS_c (by omega) (notS_c (by omega) notS_n))))))))
        refine r_cVI (pc' := 40) rfl rfl rfl rfl rfl sh_225 (m_161 (d := d + 2)  hst.1 hst.2.1 ) (fun v113 z114 w115 p116 h117 hs118 hE119 => ?_)
        obtain ⟨rfl, rfl, rfl, hE119⟩ := hE119
        refine r_ine (pc' := 43) rfl rfl ⟨by omega, by omega⟩ ⟨by omega, by omega⟩ (fun hc121 => ?_) (fun hc121 => ?_)
        · skip
          refine r_ld (pc' := 45) rfl rfl rfl rfl ?_
          refine r_ld (pc' := 46) rfl rfl rfl rfl ?_
          have hfl0 := WT.fL hrw x2.toNat (by omega)
          refine r_gr (b := 241) (pc' := 49) rfl rfl sh_225 rfl pp_225_30 ?_
          refine r_ld (pc' := 50) rfl rfl rfl rfl ?_
          have hb122 := rd_241 hz (i := x2.toNat) (by omega)
          refine r_ia (pc' := 51) rfl rfl sh_241 rfl (by omega) (by omega) (hst.2.2.1 _ _ (notS_c (by omega) (notS_c (by omega) (notS_c (by omega) (notS_c (by omega) (notS_c (by omega) (notS_c (by omega) (notS_c (by omega) notS_n)))))))) ?_
          refine r_pi (pc' := 54) rfl rfl sh_225 rfl rfl hst (inS_s (inS_s (inS_s (inS_0 (by omega) (by omega) (by omega) (by omega))))) (wr_225_38 ⟨by omega, by omega⟩) (fun z123 hq124 hs125 => ?_)
          refine r_ld (pc' := 55) rfl rfl rfl rfl ?_
          refine r_c0 (pc' := 56) rfl rfl ?_
          refine r_pi (pc' := 59) rfl rfl sh_225 rfl rfl hs125 (inS_s (inS_s (inS_s (inS_s (inS_0 (by omega) (by omega) (by omega) (by omega)))))) (wr_225_39 ⟨by omega, by omega⟩) (fun z126 hq127 hs128 => ?_)
          refine r_c0 (pc' := 60) rfl rfl ?_
          refine r_st (pc' := 61) (lv' := [(3, _), (0, _), (2, _)]) rfl rfl rfl rfl ?_
          have hb129 := rd_225_42 hst.1
          have hf130 : z126 225 42 = z 225 42 := (((congrFun (congrFun hq127 _) _).trans (mu_ne (by omega))).trans ((congrFun (congrFun hq124 _) _).trans (mu_ne (by omega))))
          have hf131 : z126 225 38 = z0 241 x2.toNat := (((congrFun (congrFun hq127 _) _).trans (mu_ne (by omega))).trans ((congrFun (congrFun hq124 _) _).trans mu_eq))
          have hf132 : z126 225 39 = 0 := ((congrFun (congrFun hq127 _) _).trans mu_eq)
          have hF133 : z126 243 = z 243 := (((congrFun hq127 _).trans (mu_fn (by omega))).trans ((congrFun hq124 _).trans (mu_fn (by omega))))
          have hF134 : z126 244 = z 244 := (((congrFun hq127 _).trans (mu_fn (by omega))).trans ((congrFun hq124 _).trans (mu_fn (by omega))))
          exact w_lv (sub_c rfl (sub_c rfl (sub_c rfl sub_n))) rfl (ih2 x2 1 z126 w ⟨by omega, by omega⟩ ⟨by omega, by omega⟩ hs128 (by first | exact as0 | exact hlr | (simp only [hF133, hF134, hf130, hf131, hf132]; exact as0) | (simp only [hF133, hF134, hf130, hf131, hf132]; exact hlr)) (by first | (rw [show (z126 225 42).toNat = (z 225 42).toNat + 1 by omega]; exact hnx) | (unfold cu; simp only [hF133, hF134, hf130, hf131, hf132]; rfl) | (unfold cu; simp only [hF133, hF134, hf130, hf131, hf132]; rw [show (z 225 42).toNat = 0 by omega]; rfl)) (by first | (intro j h1 h2; exfalso; omega) | (intro j h1 h2; by_cases c : j < (z 225 42).toNat; exact as2 j h1 c; (rw [show j = (z 225 42).toNat by omega, ← as1]; exact (as3 (by omega)).resolve_left (by omega)))) (by first | (intro h; exfalso; omega) | (intro _; left; omega) | (intro _; right; intro q; have q1 : (z126 225 38).toNat = (z0 241 x2.toNat).toNat := congrArg Prod.fst q; have q2 : z126 225 39 = 0 := congrArg Prod.snd q; omega)) (by first | exact as4 | (have hfl := WT.fL hrw x2.toNat (by omega); refine ⟨⟨by show (((z0 241 x2.toNat).toNat : Nat) : Int) < _; omega, by show (0 : Int) ≤ 0; omega, ?_⟩, by omega, by omega⟩; show (0 : Int) < (tr (rE z0) (lnR z0 a1.toNat)) (z0 235 (z0 241 x2.toNat).toNat).toNat; rw [hfl.2.2, show ((x2.toNat : Nat) : Int).toNat = x2.toNat by omega, tr_l (by omega), ← as0.1 x2.toNat (by omega)]; have := rd_243 hst.1 (i := x2.toNat) (by omega); have := as2.2 (by omega); omega)) (by omega))
        · skip
          exact r_ret rfl (po_V hst rfl)
      · intro x2 x3 z w  hx2 hx3 hst as0 as1 as2 as3 as4 hM
        have hcv : vd (z0 225 26) (z0 235) (tr (rE z0) (lnR z0 a1.toNat)) (cu z) := by rw [as1]; exact tk_v hrw hft as4.1 _
        refine r_ld (pc' := 62) rfl rfl rfl rfl ?_
        refine r_zeq (pc' := 65) rfl rfl ⟨by omega, by omega⟩ (fun hc135 => ?_) (fun hc135 => ?_)
        · skip
          exact r_ret rfl (po_V hst rfl)
        · skip
          refine r_ld (pc' := 66) rfl rfl rfl rfl ?_
          have hkb := tk_n hrw hft as4.1 (k := (z 225 42).toNat + 1) (fun j h1 h2 => by by_cases c : j < (z 225 42).toNat; exact as2 j h1 c; (rw [show j = (z 225 42).toNat by omega, ← as1]; exact (as3 (by omega)).resolve_left (by omega)))
          refine r_gr (b := 246) (pc' := 69) rfl rfl sh_225 rfl pp_225_41 ?_
          refine r_ld (pc' := 70) rfl rfl rfl rfl ?_
          have hb136 := rd_225_42 hst.1
          refine r_gi (pc' := 73) rfl rfl sh_225 rfl rfl ?_
          refine r_ld (pc' := 74) rfl rfl rfl rfl ?_
          have hb137 := rd_225_38 hst.1
          refine r_gi (pc' := 77) rfl rfl sh_225 rfl rfl ?_
          refine r_is (pc' := 78) rfl rfl sh_246 rfl (by omega) (by omega) hst (inS_s (inS_s (inS_s (inS_s (inS_s (inS_0 (by omega) (by omega) (by omega) (by omega))))))) (wr_246 ⟨by omega, by omega⟩) (fun z138 hq139 hs140 => ?_)
          refine r_ld (pc' := 79) rfl rfl rfl rfl ?_
          refine r_al (pc' := 80) rfl rfl rfl rfl ?_
          refine r_gi (pc' := 83) rfl rfl sh_225 rfl ((congrFun (congrFun hq139 _) _).trans (mu_ne (by omega))) ?_
          refine r_c0 (pc' := 84) rfl rfl ?_
          refine r_add (pc' := 85) rfl rfl ?_
          refine r_pi (pc' := 88) rfl rfl sh_225 rfl rfl hs140 (inS_s (inS_s (inS_0 (by omega) (by omega) (by omega) (by omega)))) (wr_225_42 ⟨by omega, by omega⟩) (fun z141 hq142 hs143 => ?_)
          refine r_ld (pc' := 89) rfl rfl rfl rfl ?_
          have q235 : z141 235 = z0 235 := funext fun i => hs143.2.2.1 _ _ (notS_c (by omega) (notS_c (by omega) (notS_c (by omega) (notS_c (by omega) (notS_c (by omega) (notS_c (by omega) (notS_c (by omega) (notS_n))))))))
          have q240 : z141 240 = z0 240 := funext fun i => hs143.2.2.1 _ _ (notS_c (by omega) (notS_c (by omega) (notS_c (by omega) (notS_c (by omega) (notS_c (by omega) (notS_c (by omega) (notS_c (by omega) (notS_n))))))))
          have q241 : z141 241 = z0 241 := funext fun i => hs143.2.2.1 _ _ (notS_c (by omega) (notS_c (by omega) (notS_c (by omega) (notS_c (by omega) (notS_c (by omega) (notS_c (by omega) (notS_c (by omega) (notS_n))))))))
          have q26 : z141 225 26 = z0 225 26 := hs143.2.2.1 _ _ (notS_c (by omega) (notS_c (by omega) (notS_c (by omega) (notS_c (by omega) (notS_c (by omega) (notS_c (by omega) (notS_c (by omega) (notS_n))))))))
          have c38 : z141 225 38 = z 225 38 := (((congrFun (congrFun hq142 _) _).trans (mu_ne (by omega))).trans ((congrFun (congrFun hq139 _) _).trans (mu_ne (by omega))))
          have c39 : z141 225 39 = z 225 39 := (((congrFun (congrFun hq142 _) _).trans (mu_ne (by omega))).trans ((congrFun (congrFun hq139 _) _).trans (mu_ne (by omega))))
          have c243 : z141 243 = z 243 := funext fun i => (((congrFun (congrFun hq142 _) _).trans (mu_ne (by omega))).trans ((congrFun (congrFun hq139 _) _).trans (mu_ne (by omega))))
          have hr := nR_e (src := (lnR z0 a1.toNat)) q26 (fun e he => by rw [c243]; exact as0.1 e he)
          have hF144 : z141 235 = z0 235 := (((congrFun hq142 _).trans (mu_fn (by omega))).trans (((congrFun hq139 _).trans (mu_fn (by omega))).trans (funext fun _ => hst.2.2.1 _ _ (notS_c (by omega) (notS_c (by omega) (notS_c (by omega) (notS_c (by omega) (notS_c (by omega) (notS_c (by omega) (notS_c (by omega) notS_n))))))))))
          have hF145 : z141 240 = z0 240 := (((congrFun hq142 _).trans (mu_fn (by omega))).trans (((congrFun hq139 _).trans (mu_fn (by omega))).trans (funext fun _ => hst.2.2.1 _ _ (notS_c (by omega) (notS_c (by omega) (notS_c (by omega) (notS_c (by omega) (notS_c (by omega) (notS_c (by omega) (notS_c (by omega) notS_n))))))))))
          refine r_cVV (pc' := 92) rfl rfl rfl rfl rfl sh_225 (m_185v (d := d + 1)  hs143.1 hs143.2.1 (by exact RW_f hs143 (notS_c (by omega) (notS_c (by omega) (notS_c (by omega) (notS_c (by omega) (notS_c (by omega) (notS_c (by omega) (notS_c (by omega) (notS_n)))))))) (fun i => (notS_c (by omega) (notS_c (by omega) (notS_c (by omega) (notS_c (by omega) (notS_c (by omega) (notS_c (by omega) (notS_c (by omega) (notS_n))))))))) (fun i => (notS_c (by omega) (notS_c (by omega) (notS_c (by omega) (notS_c (by omega) (notS_c (by omega) (notS_c (by omega) (notS_c (by omega) (notS_n))))))))) (fun i => (notS_c (by omega) (notS_c (by omega) (notS_c (by omega) (notS_c (by omega) (notS_c (by omega) (notS_c (by omega) (notS_c (by omega) (notS_n))))))))) hrw) (by unfold vdR cu; rw [c38, c39, hr, q26, q235]; exact hcv)) (fun z147 w148 p149 hs151 hE152 => ?_)
          have hs153 := st_tr hs143 hs151 (sub_B rfl)
          obtain ⟨rfl, hE152⟩ := hE152
          have hgo := hE152
          rw [q235, q240, hr] at hgo
          unfold cu at hgo
          rw [c38, c39] at hgo
          refine r_ld (pc' := 93) rfl rfl rfl rfl ?_
          have r235 : z147 235 = z0 235 := funext fun i => hs153.2.2.1 _ _ (notS_c (by omega) (notS_c (by omega) (notS_c (by omega) (notS_c (by omega) (notS_c (by omega) (notS_c (by omega) (notS_c (by omega) (notS_n))))))))
          have r240 : z147 240 = z0 240 := funext fun i => hs153.2.2.1 _ _ (notS_c (by omega) (notS_c (by omega) (notS_c (by omega) (notS_c (by omega) (notS_c (by omega) (notS_c (by omega) (notS_c (by omega) (notS_n))))))))
          have r241 : z147 241 = z0 241 := funext fun i => hs153.2.2.1 _ _ (notS_c (by omega) (notS_c (by omega) (notS_c (by omega) (notS_c (by omega) (notS_c (by omega) (notS_c (by omega) (notS_c (by omega) (notS_n))))))))
          have r26 : z147 225 26 = z0 225 26 := hs153.2.2.1 _ _ (notS_c (by omega) (notS_c (by omega) (notS_c (by omega) (notS_c (by omega) (notS_c (by omega) (notS_c (by omega) (notS_c (by omega) (notS_n))))))))
          have d243 : z147 243 = z 243 := funext fun i => ((hs151.2.2.1 _ _ (notS_c (by omega) (notS_c (by omega) notS_n))).trans (((congrFun (congrFun hq142 _) _).trans (mu_ne (by omega))).trans ((congrFun (congrFun hq139 _) _).trans (mu_ne (by omega)))))
          have hr3 := nR_e (src := (lnR z0 a1.toNat)) r26 (fun e he => by rw [d243]; exact as0.1 e he)
          have hb154 := rd_225_26 hz
          have hf155 : z147 225 26 = z0 225 26 := ((hs151.2.2.1 _ _ (notS_c (by omega) (notS_c (by omega) notS_n))).trans (((congrFun (congrFun hq142 _) _).trans (mu_ne (by omega))).trans (((congrFun (congrFun hq139 _) _).trans (mu_ne (by omega))).trans (hst.2.2.1 _ _ (notS_c (by omega) (notS_c (by omega) (notS_c (by omega) (notS_c (by omega) (notS_c (by omega) (notS_c (by omega) (notS_c (by omega) notS_n)))))))))))
          have hF156 : z147 235 = z0 235 := ((funext fun _ => hs151.2.2.1 _ _ (notS_c (by omega) (notS_c (by omega) notS_n))).trans (((congrFun hq142 _).trans (mu_fn (by omega))).trans (((congrFun hq139 _).trans (mu_fn (by omega))).trans (funext fun _ => hst.2.2.1 _ _ (notS_c (by omega) (notS_c (by omega) (notS_c (by omega) (notS_c (by omega) (notS_c (by omega) (notS_c (by omega) (notS_c (by omega) notS_n)))))))))))
          refine r_cVV (pc' := 96) rfl rfl rfl rfl rfl sh_225 (m_184v (d := d)  hs153.1 hs153.2.1 (by exact RW_f hs153 (notS_c (by omega) (notS_c (by omega) (notS_c (by omega) (notS_c (by omega) (notS_c (by omega) (notS_c (by omega) (notS_c (by omega) (notS_n)))))))) (fun i => (notS_c (by omega) (notS_c (by omega) (notS_c (by omega) (notS_c (by omega) (notS_c (by omega) (notS_c (by omega) (notS_c (by omega) (notS_n))))))))) (fun i => (notS_c (by omega) (notS_c (by omega) (notS_c (by omega) (notS_c (by omega) (notS_c (by omega) (notS_c (by omega) (notS_c (by omega) (notS_n))))))))) (fun i => (notS_c (by omega) (notS_c (by omega) (notS_c (by omega) (notS_c (by omega) (notS_c (by omega) (notS_c (by omega) (notS_c (by omega) (notS_n))))))))) hrw) (by rw [hr3, r26, r235]; exact hft) (by unfold vdR cu; rw [hgo, hr3, r26, r235]; exact (vv_v hrw hcv).1)) (fun z158 w159 p160 hs162 hE163 => ?_)
          have hs164 := st_tr hs153 hs162 (sub_B rfl)
          obtain ⟨rfl, hE163⟩ := hE163
          have hgt := hE163
          rw [r235, hr3] at hgt
          unfold cu at hgt
          rw [hgo] at hgt
          have hnx : cu z158 = tk (z0 235) (z0 240) (tr (rE z0) (lnR z0 a1.toNat)) ((z0 241 x2.toNat).toNat, 0) ((z 225 42).toNat + 1) := by show _ = gg _ _ (vv _ _ _ (tk (z0 235) (z0 240) (tr (rE z0) (lnR z0 a1.toNat)) ((z0 241 x2.toNat).toNat, 0) (z 225 42).toNat)); rw [← as1]; exact hgt
          refine r_ld (pc' := 97) rfl rfl rfl rfl ?_
          have hb165 := rd_225_38 hs164.1
          refine r_gi (pc' := 100) rfl rfl sh_225 rfl rfl ?_
          refine r_ld (pc' := 101) rfl rfl rfl rfl ?_
          refine r_gr (b := 241) (pc' := 104) rfl rfl sh_225 rfl pp_225_30 ?_
          refine r_ld (pc' := 105) rfl rfl rfl rfl ?_
          have hb166 := rd_241 hz (i := x2.toNat) (by omega)
          refine r_ia (pc' := 106) rfl rfl sh_241 rfl (by omega) (by omega) ((hs162.2.2.1 _ _ (notS_c (by omega) (notS_c (by omega) (notS_c (by omega) notS_n)))).trans ((hs151.2.2.1 _ _ (notS_c (by omega) (notS_c (by omega) notS_n))).trans (((congrFun (congrFun hq142 _) _).trans (mu_ne (by omega))).trans (((congrFun (congrFun hq139 _) _).trans (mu_ne (by omega))).trans (hst.2.2.1 _ _ (notS_c (by omega) (notS_c (by omega) (notS_c (by omega) (notS_c (by omega) (notS_c (by omega) (notS_c (by omega) (notS_c (by omega) notS_n)))))))))))) ?_
          refine r_ine (pc' := 109) rfl rfl ⟨by omega, by omega⟩ ⟨by omega, by omega⟩ (fun hc167 => ?_) (fun hc167 => ?_)
          · skip
            refine r_c0 (pc' := 117) rfl rfl ?_
            refine r_go rfl ?_
            refine r_st (pc' := 122) (lv' := [(3, _), (0, _), (2, _)]) rfl rfl rfl rfl ?_
            refine r_go rfl ?_
            have hf168 : z158 225 42 = (z 225 42) + 1 := ((hs162.2.2.1 _ _ (notS_c (by omega) (notS_c (by omega) (notS_c (by omega) notS_n)))).trans ((hs151.2.2.1 _ _ (notS_c (by omega) (notS_c (by omega) notS_n))).trans ((congrFun (congrFun hq142 _) _).trans mu_eq)))
            have hb169 := rd_225_39 hs164.1
            have hF170 : z158 243 = z 243 := ((funext fun _ => hs162.2.2.1 _ _ (notS_c (by omega) (notS_c (by omega) (notS_c (by omega) notS_n)))).trans ((funext fun _ => hs151.2.2.1 _ _ (notS_c (by omega) (notS_c (by omega) notS_n))).trans (((congrFun hq142 _).trans (mu_fn (by omega))).trans ((congrFun hq139 _).trans (mu_fn (by omega))))))
            have hF171 : z158 244 = z 244 := ((funext fun _ => hs162.2.2.1 _ _ (notS_c (by omega) (notS_c (by omega) (notS_c (by omega) notS_n)))).trans ((funext fun _ => hs151.2.2.1 _ _ (notS_c (by omega) (notS_c (by omega) notS_n))).trans (((congrFun hq142 _).trans (mu_fn (by omega))).trans ((congrFun hq139 _).trans (mu_fn (by omega))))))
            exact w_lv (sub_c rfl (sub_c rfl (sub_c rfl sub_n))) rfl (ih2 x2 1 z158 w159 ⟨by omega, by omega⟩ ⟨by omega, by omega⟩ hs164 (by first | exact as0 | exact hlr | (simp only [hF170, hF171, hf168]; exact as0) | (simp only [hF170, hF171, hf168]; exact hlr)) (by first | (rw [show (z158 225 42).toNat = (z 225 42).toNat + 1 by omega]; exact hnx) | (unfold cu; simp only [hF170, hF171, hf168]; rfl) | (unfold cu; simp only [hF170, hF171, hf168]; rw [show (z 225 42).toNat = 0 by omega]; rfl)) (by first | (intro j h1 h2; exfalso; omega) | (intro j h1 h2; by_cases c : j < (z 225 42).toNat; exact as2 j h1 c; (rw [show j = (z 225 42).toNat by omega, ← as1]; exact (as3 (by omega)).resolve_left (by omega)))) (by first | (intro h; exfalso; omega) | (intro _; left; omega) | (intro _; right; intro q; have q1 : (z158 225 38).toNat = (z0 241 x2.toNat).toNat := congrArg Prod.fst q; have q2 : z158 225 39 = 0 := congrArg Prod.snd q; omega)) (by first | exact as4 | (have hfl := WT.fL hrw x2.toNat (by omega); refine ⟨⟨by show (((z0 241 x2.toNat).toNat : Nat) : Int) < _; omega, by show (0 : Int) ≤ 0; omega, ?_⟩, by omega, by omega⟩; show (0 : Int) < (tr (rE z0) (lnR z0 a1.toNat)) (z0 235 (z0 241 x2.toNat).toNat).toNat; rw [hfl.2.2, show ((x2.toNat : Nat) : Int).toNat = x2.toNat by omega, tr_l (by omega), ← as0.1 x2.toNat (by omega)]; have := rd_243 hst.1 (i := x2.toNat) (by omega); have := as2.2 (by omega); omega)) (by omega))
          · skip
            refine r_ld (pc' := 110) rfl rfl rfl rfl ?_
            have hb172 := rd_225_39 hs164.1
            refine r_gi (pc' := 113) rfl rfl sh_225 rfl rfl ?_
            refine r_zeq (pc' := 116) rfl rfl ⟨by omega, by omega⟩ (fun hc173 => ?_) (fun hc173 => ?_)
            · skip
              refine r_c0 (pc' := 121) rfl rfl ?_
              refine r_st (pc' := 122) (lv' := [(3, _), (0, _), (2, _)]) rfl rfl rfl rfl ?_
              refine r_go rfl ?_
              have hf174 : z158 225 42 = (z 225 42) + 1 := ((hs162.2.2.1 _ _ (notS_c (by omega) (notS_c (by omega) (notS_c (by omega) notS_n)))).trans ((hs151.2.2.1 _ _ (notS_c (by omega) (notS_c (by omega) notS_n))).trans ((congrFun (congrFun hq142 _) _).trans mu_eq)))
              have hF175 : z158 243 = z 243 := ((funext fun _ => hs162.2.2.1 _ _ (notS_c (by omega) (notS_c (by omega) (notS_c (by omega) notS_n)))).trans ((funext fun _ => hs151.2.2.1 _ _ (notS_c (by omega) (notS_c (by omega) notS_n))).trans (((congrFun hq142 _).trans (mu_fn (by omega))).trans ((congrFun hq139 _).trans (mu_fn (by omega))))))
              have hF176 : z158 244 = z 244 := ((funext fun _ => hs162.2.2.1 _ _ (notS_c (by omega) (notS_c (by omega) (notS_c (by omega) notS_n)))).trans ((funext fun _ => hs151.2.2.1 _ _ (notS_c (by omega) (notS_c (by omega) notS_n))).trans (((congrFun hq142 _).trans (mu_fn (by omega))).trans ((congrFun hq139 _).trans (mu_fn (by omega))))))
              exact w_lv (sub_c rfl (sub_c rfl (sub_c rfl sub_n))) rfl (ih2 x2 0 z158 w159 ⟨by omega, by omega⟩ ⟨by omega, by omega⟩ hs164 (by first | exact as0 | exact hlr | (simp only [hF175, hF176, hf174]; exact as0) | (simp only [hF175, hF176, hf174]; exact hlr)) (by first | (rw [show (z158 225 42).toNat = (z 225 42).toNat + 1 by omega]; exact hnx) | (unfold cu; simp only [hF175, hF176, hf174]; rfl) | (unfold cu; simp only [hF175, hF176, hf174]; rw [show (z 225 42).toNat = 0 by omega]; rfl)) (by first | (intro j h1 h2; exfalso; omega) | (intro j h1 h2; by_cases c : j < (z 225 42).toNat; exact as2 j h1 c; (rw [show j = (z 225 42).toNat by omega, ← as1]; exact (as3 (by omega)).resolve_left (by omega)))) (by first | (intro h; exfalso; omega) | (intro _; left; omega) | (intro _; right; intro q; have q1 : (z158 225 38).toNat = (z0 241 x2.toNat).toNat := congrArg Prod.fst q; have q2 : z158 225 39 = 0 := congrArg Prod.snd q; omega)) (by first | exact as4 | (have hfl := WT.fL hrw x2.toNat (by omega); refine ⟨⟨by show (((z0 241 x2.toNat).toNat : Nat) : Int) < _; omega, by show (0 : Int) ≤ 0; omega, ?_⟩, by omega, by omega⟩; show (0 : Int) < (tr (rE z0) (lnR z0 a1.toNat)) (z0 235 (z0 241 x2.toNat).toNat).toNat; rw [hfl.2.2, show ((x2.toNat : Nat) : Int).toNat = x2.toNat by omega, tr_l (by omega), ← as0.1 x2.toNat (by omega)]; have := rd_243 hst.1 (i := x2.toNat) (by omega); have := as2.2 (by omega); omega)) (by omega))
            · skip
              refine r_c0 (pc' := 117) rfl rfl ?_
              refine r_go rfl ?_
              refine r_st (pc' := 122) (lv' := [(3, _), (0, _), (2, _)]) rfl rfl rfl rfl ?_
              refine r_go rfl ?_
              have hf177 : z158 225 42 = (z 225 42) + 1 := ((hs162.2.2.1 _ _ (notS_c (by omega) (notS_c (by omega) (notS_c (by omega) notS_n)))).trans ((hs151.2.2.1 _ _ (notS_c (by omega) (notS_c (by omega) notS_n))).trans ((congrFun (congrFun hq142 _) _).trans mu_eq)))
              have hF178 : z158 243 = z 243 := ((funext fun _ => hs162.2.2.1 _ _ (notS_c (by omega) (notS_c (by omega) (notS_c (by omega) notS_n)))).trans ((funext fun _ => hs151.2.2.1 _ _ (notS_c (by omega) (notS_c (by omega) notS_n))).trans (((congrFun hq142 _).trans (mu_fn (by omega))).trans ((congrFun hq139 _).trans (mu_fn (by omega))))))
              have hF179 : z158 244 = z 244 := ((funext fun _ => hs162.2.2.1 _ _ (notS_c (by omega) (notS_c (by omega) (notS_c (by omega) notS_n)))).trans ((funext fun _ => hs151.2.2.1 _ _ (notS_c (by omega) (notS_c (by omega) notS_n))).trans (((congrFun hq142 _).trans (mu_fn (by omega))).trans ((congrFun hq139 _).trans (mu_fn (by omega))))))
              exact w_lv (sub_c rfl (sub_c rfl (sub_c rfl sub_n))) rfl (ih2 x2 1 z158 w159 ⟨by omega, by omega⟩ ⟨by omega, by omega⟩ hs164 (by first | exact as0 | exact hlr | (simp only [hF178, hF179, hf177]; exact as0) | (simp only [hF178, hF179, hf177]; exact hlr)) (by first | (rw [show (z158 225 42).toNat = (z 225 42).toNat + 1 by omega]; exact hnx) | (unfold cu; simp only [hF178, hF179, hf177]; rfl) | (unfold cu; simp only [hF178, hF179, hf177]; rw [show (z 225 42).toNat = 0 by omega]; rfl)) (by first | (intro j h1 h2; exfalso; omega) | (intro j h1 h2; by_cases c : j < (z 225 42).toNat; exact as2 j h1 c; (rw [show j = (z 225 42).toNat by omega, ← as1]; exact (as3 (by omega)).resolve_left (by omega)))) (by first | (intro h; exfalso; omega) | (intro _; left; omega) | (intro _; right; intro q; have q1 : (z158 225 38).toNat = (z0 241 x2.toNat).toNat := congrArg Prod.fst q; have q2 : z158 225 39 = 0 := congrArg Prod.snd q; omega)) (by first | exact as4 | (have hfl := WT.fL hrw x2.toNat (by omega); refine ⟨⟨by show (((z0 241 x2.toNat).toNat : Nat) : Int) < _; omega, by show (0 : Int) ≤ 0; omega, ?_⟩, by omega, by omega⟩; show (0 : Int) < (tr (rE z0) (lnR z0 a1.toNat)) (z0 235 (z0 241 x2.toNat).toNat).toNat; rw [hfl.2.2, show ((x2.toNat : Nat) : Int).toNat = x2.toNat by omega, tr_l (by omega), ← as0.1 x2.toNat (by omega)]; have := rd_243 hst.1 (i := x2.toNat) (by omega); have := as2.2 (by omega); omega)) (by omega))
  refine w_m rfl rfl ?_
  refine r_ld (pc' := 1) rfl rfl rfl rfl ?_
  refine r_ld (pc' := 2) rfl rfl rfl rfl ?_
  refine r_cVV (pc' := 5) rfl rfl rfl rfl rfl sh_225 (m_180t (d := d + 1) a1 hst.1 hst.2.1 ⟨by omega, by omega⟩ (by exact hsm)) (fun z181 w182 p183 hs185 hE186 => ?_)
  have hs187 := st_tr hst hs185 (sub_B rfl)
  obtain ⟨rfl, hE186⟩ := hE186
  have hlr := hE186
  refine r_ld (pc' := 6) rfl rfl rfl rfl ?_
  refine r_c0 (pc' := 7) rfl rfl ?_
  refine r_pi (pc' := 10) rfl rfl sh_225 rfl rfl hs187 (inS_s (inS_s (inS_0 (by omega) (by omega) (by omega) (by omega)))) (wr_225_42 ⟨by omega, by omega⟩) (fun z188 hq189 hs190 => ?_)
  refine r_c0 (pc' := 11) rfl rfl ?_
  refine r_st (pc' := 12) (lv' := [(2, _), (0, _), (1, _)]) rfl rfl rfl rfl ?_
  have hf191 : z188 225 42 = 0 := ((congrFun (congrFun hq189 _) _).trans mu_eq)
  have hb192 := rd_225_38 hz
  have hf193 : z188 225 38 = z0 225 38 := (((congrFun (congrFun hq189 _) _).trans (mu_ne (by omega))).trans (hs185.2.2.1 _ _ (notS_c (by omega) (notS_c (by omega) notS_n))))
  have hb194 := rd_225_39 hz
  have hf195 : z188 225 39 = z0 225 39 := (((congrFun (congrFun hq189 _) _).trans (mu_ne (by omega))).trans (hs185.2.2.1 _ _ (notS_c (by omega) (notS_c (by omega) notS_n))))
  have hF196 : z188 243 = z181 243 := ((congrFun hq189 _).trans (mu_fn (by omega)))
  have hF197 : z188 244 = z181 244 := ((congrFun hq189 _).trans (mu_fn (by omega)))
  have hb198 := rd_225_40 hz
  exact w_lv (sub_c rfl (sub_c rfl sub_n)) rfl ((key ((70 * (18 - 0) + 20061 : Int).toNat + 1)).1 0 z188 w182 ⟨by omega, by omega⟩ hs190 ((((congrFun (congrFun hq189 _) _).trans (mu_ne (by omega))).trans (hs185.2.2.1 _ _ (notS_c (by omega) (notS_c (by omega) notS_n))))) ((((congrFun (congrFun hq189 _) _).trans (mu_ne (by omega))).trans (hs185.2.2.1 _ _ (notS_c (by omega) (notS_c (by omega) notS_n))))) ((((congrFun (congrFun hq189 _) _).trans (mu_ne (by omega))).trans (hs185.2.2.1 _ _ (notS_c (by omega) (notS_c (by omega) notS_n))))) (by first | exact as0 | exact hlr | (simp only [hF196, hF197, hf191, hf193, hf195]; exact as0) | (simp only [hF196, hF197, hf191, hf193, hf195]; exact hlr)) (by first | omega | assumption | (simp only [hF196, hF197, hf191, hf193, hf195]; assumption)) (by first | omega | assumption | (simp only [hF196, hF197, hf191, hf193, hf195]; assumption)) (by omega))
/-- LoopGroundModel trace -/
abbrev S_193n  : mS := [(244, 244, 0, 18), (243, 243, 0, 17), (225, 225, 42, 42), (225, 225, 38, 38), (225, 225, 39, 39), (246, 246, 0, 17999), (225, 225, 40, 40)]
abbrev E_193n (a1 : Int) (z0 w0 : mZ) (x y tx it mt tt ct : Option Nat) : mZ → mZ → mP → Prop := fun z w p => p = (pq x y tx it mt tt ct)
theorem m_193n {d : Nat} {z0 w0 : mZ} {x y tx it mt tt ct : Option Nat} (a1 : Int) (hz : rz z0) (hw : rw_ w0) (ha1 : (-1) ≤ a1 ∧ a1 ≤ (-1)) (hrw : RW z0) (hft : FT (z0 225 26).toNat (vT (z0 235)) (tr (rE z0) (w0 270))) (hsm : sm (tr (rE z0) (w0 270)) 18 ≤ 18000) : wc (d + 4) 193 [.ref 225, .int (Int32.ofInt a1)] (mk z0 w0 (pq x y tx it mt tt ct)) (poV S_193n z0 w0 (E_193n a1 z0 w0 x y tx it mt tt ct)) := by
  have hst : st_ S_193n z0 w0 z0 w0 := st_rf hz hw
  have hz78 := rd_225_26 hz
  have hm26 := rd_225_26 hz
  have hrE : rE z0 = 3 * z0 225 26 / 2 := rfl
  have key : ∀ N : Nat, (∀ (x2 : Int) (z w : mZ), 0 ≤ x2 ∧ x2 ≤ 18 → st_ S_193n z0 w0 z w → z 225 38 = z0 225 38 → z 225 39 = z0 225 39 → z 225 40 = z0 225 40 → ((∀ e : Nat, (e : Int) < rE z0 → z 243 e = (w0 270) e) ∧ ∀ e : Nat, (e : Int) ≤ rE z0 → z 244 e = sm (tr (rE z0) (w0 270)) e) → (z 225 42 = 0) → (x2 ≤ rE z0) → 70 * (18 - x2) + 20061 < (N : Int) → wp_ (d + 3) 193 4 none (12, [(0, .ref 225), (2, .int (Int32.ofInt x2))], [], mk z w (pq x y tx it mt tt ct)) (poV S_193n z0 w0 (E_193n a1 z0 w0 x y tx it mt tt ct))) ∧ (∀ (x2 : Int) (z w : mZ), 0 ≤ x2 ∧ x2 ≤ 18 → st_ S_193n z0 w0 z w → z 225 38 = z0 225 38 → z 225 39 = z0 225 39 → z 225 40 = z0 225 40 → ((∀ e : Nat, (e : Int) < rE z0 → z 243 e = (w0 270) e) ∧ ∀ e : Nat, (e : Int) ≤ rE z0 → z 244 e = sm (tr (rE z0) (w0 270)) e) → (z 225 42 = 0) → (x2 ≤ rE z0 ∧ (x2 < rE z0 → ¬ z 243 x2.toNat = 0)) → 20050 < (N : Int) → wp_ (d + 3) 193 4 none (35, [(0, .ref 225), (2, .int (Int32.ofInt x2))], [], mk z w (pq x y tx it mt tt ct)) (poV S_193n z0 w0 (E_193n a1 z0 w0 x y tx it mt tt ct))) ∧ (∀ (x2 x3 : Int) (z w : mZ), 0 ≤ x2 ∧ x2 ≤ 17 → 0 ≤ x3 ∧ x3 ≤ 1 → st_ S_193n z0 w0 z w → ((∀ e : Nat, (e : Int) < rE z0 → z 243 e = (w0 270) e) ∧ ∀ e : Nat, (e : Int) ≤ rE z0 → z 244 e = sm (tr (rE z0) (w0 270)) e) → (cu z = tk (z0 235) (z0 240) (tr (rE z0) (w0 270)) ((z0 241 x2.toNat).toNat, 0) (z 225 42).toNat) → (∀ j : Nat, 0 < j → j < (z 225 42).toNat → tk (z0 235) (z0 240) (tr (rE z0) (w0 270)) ((z0 241 x2.toNat).toNat, 0) j ≠ ((z0 241 x2.toNat).toNat, 0)) → (x3 = 1 → (z 225 42 = 0 ∨ cu z ≠ ((z0 241 x2.toNat).toNat, 0))) → (vd (z0 225 26) (z0 235) (tr (rE z0) (w0 270)) ((z0 241 x2.toNat).toNat, 0) ∧ x2 < rE z0 ∧ 0 ≤ z0 241 x2.toNat) → 18001 - z 225 42 < (N : Int) → wp_ (d + 3) 193 4 none (61, [(0, .ref 225), (2, .int (Int32.ofInt x2)), (3, .int (Int32.ofInt x3))], [], mk z w (pq x y tx it mt tt ct)) (poV S_193n z0 w0 (E_193n a1 z0 w0 x y tx it mt tt ct))) := by
    intro N
    induction N with
    | zero =>
      refine ⟨?_, ?_, ?_⟩
      · intro x2 z w
        intros; exfalso; omega
      · intro x2 z w
        intros; exfalso; omega
      · intro x2 x3 z w
        intro _h0 _h1 hst
        have hb79 := rd_225_42 hst.1
        intros; exfalso; omega
    | succ N ih =>
      obtain ⟨ih0, ih1, ih2⟩ := ih
      refine ⟨?_, ?_, ?_⟩
      · intro x2 z w  hx2 hst un_z_225_38 un_z_225_39 un_z_225_40 as0 as1 as2 hM
        refine r_ld (pc' := 13) rfl rfl rfl rfl ?_
        refine r_ld (pc' := 14) rfl rfl rfl rfl ?_
        have hb80 := rd_225_26 hz
        have hf81 : z 225 26 = z0 225 26 := (hst.2.2.1 _ _ (notS_c (by omega) (notS_c (by omega) (notS_c (by omega) (notS_c (by omega) (notS_c (by omega) (notS_c (by omega) (notS_c (by omega) notS_n))))))))
        refine r_cVI (pc' := 17) rfl rfl rfl rfl rfl sh_225 (m_161 (d := d + 2)  hst.1 hst.2.1 ) (fun v82 z83 w84 p85 h86 hs87 hE88 => ?_)
        obtain ⟨rfl, rfl, rfl, hE88⟩ := hE88
        refine r_ige (pc' := 20) rfl rfl ⟨by omega, by omega⟩ ⟨by omega, by omega⟩ (fun hc90 => ?_) (fun hc90 => ?_)
        · skip
          have hb91 := rd_225_42 hst.1
          have hb92 := rd_225_38 hz
          have hf93 : z 225 38 = z0 225 38 := un_z_225_38
          have hb94 := rd_225_39 hz
          have hf95 : z 225 39 = z0 225 39 := un_z_225_39
          have hb96 := rd_225_40 hz
          exact w_lv (sub_c rfl (sub_c rfl sub_n)) rfl (ih1 x2 z w ⟨by omega, by omega⟩ hst (un_z_225_38) (un_z_225_39) (un_z_225_40) (by first | exact as0 | exact hlr | (simp only [hf93, hf95]; exact as0) | (simp only [hf93, hf95]; exact hlr)) (by first | omega | assumption | (simp only [hf93, hf95]; assumption)) (by first | omega | assumption | (simp only [hf93, hf95]; assumption)) (by omega))
        · skip
          refine r_ld (pc' := 21) rfl rfl rfl rfl ?_
          refine r_gr (b := 243) (pc' := 24) rfl rfl sh_225 rfl pp_225_33 ?_
          refine r_ld (pc' := 25) rfl rfl rfl rfl ?_
          have hb97 := rd_243 hst.1 (i := x2.toNat) (by omega)
          refine r_ia (pc' := 26) rfl rfl sh_243 rfl (by omega) (by omega) rfl ?_
          refine r_zne (pc' := 29) rfl rfl ⟨by omega, by omega⟩ (fun hc98 => ?_) (fun hc98 => ?_)
          · skip
            have hb99 := rd_225_42 hst.1
            have hb100 := rd_225_38 hz
            have hf101 : z 225 38 = z0 225 38 := un_z_225_38
            have hb102 := rd_225_39 hz
            have hf103 : z 225 39 = z0 225 39 := un_z_225_39
            have hb104 := rd_225_40 hz
            exact w_lv (sub_c rfl (sub_c rfl sub_n)) rfl (ih1 x2 z w ⟨by omega, by omega⟩ hst (un_z_225_38) (un_z_225_39) (un_z_225_40) (by first | exact as0 | exact hlr | (simp only [hf101, hf103]; exact as0) | (simp only [hf101, hf103]; exact hlr)) (by first | omega | assumption | (simp only [hf101, hf103]; assumption)) (by first | omega | assumption | (simp only [hf101, hf103]; assumption)) (by omega))
          · skip
            refine r_inc (pc' := 32) (lv' := [(0, _)]) rfl rfl rfl rfl rfl ?_
            refine r_go rfl ?_
            have hb105 := rd_225_42 hst.1
            have hb106 := rd_225_38 hz
            have hf107 : z 225 38 = z0 225 38 := un_z_225_38
            have hb108 := rd_225_39 hz
            have hf109 : z 225 39 = z0 225 39 := un_z_225_39
            have hb110 := rd_225_40 hz
            exact w_lv (sub_c rfl (sub_c rfl sub_n)) rfl (ih0 (x2 + 1) z w ⟨by omega, by omega⟩ hst (un_z_225_38) (un_z_225_39) (un_z_225_40) (by first | exact as0 | exact hlr | (simp only [hf107, hf109]; exact as0) | (simp only [hf107, hf109]; exact hlr)) (by first | omega | assumption | (simp only [hf107, hf109]; assumption)) (by first | omega | assumption | (simp only [hf107, hf109]; assumption)) (by omega))
      · intro x2 z w  hx2 hst un_z_225_38 un_z_225_39 un_z_225_40 as0 as1 as2 hM
        refine r_ld (pc' := 36) rfl rfl rfl rfl ?_
        refine r_ld (pc' := 37) rfl rfl rfl rfl ?_
        have hb111 := rd_225_26 hz
        have hf112 : z 225 26 = z0 225 26 := (hst.2.2.1 _ _ (notS_c (by omega) (notS_c (by omega) (notS_c (by omega) (notS_c (by omega) (notS_c (by omega) (notS_c (by omega) (notS_c (by omega) notS_n))))))))
        refine r_cVI (pc' := 40) rfl rfl rfl rfl rfl sh_225 (m_161 (d := d + 2)  hst.1 hst.2.1 ) (fun v113 z114 w115 p116 h117 hs118 hE119 => ?_)
        obtain ⟨rfl, rfl, rfl, hE119⟩ := hE119
        refine r_ine (pc' := 43) rfl rfl ⟨by omega, by omega⟩ ⟨by omega, by omega⟩ (fun hc121 => ?_) (fun hc121 => ?_)
        · skip
          refine r_ld (pc' := 45) rfl rfl rfl rfl ?_
          refine r_ld (pc' := 46) rfl rfl rfl rfl ?_
          have hfl0 := WT.fL hrw x2.toNat (by omega)
          refine r_gr (b := 241) (pc' := 49) rfl rfl sh_225 rfl pp_225_30 ?_
          refine r_ld (pc' := 50) rfl rfl rfl rfl ?_
          have hb122 := rd_241 hz (i := x2.toNat) (by omega)
          refine r_ia (pc' := 51) rfl rfl sh_241 rfl (by omega) (by omega) (hst.2.2.1 _ _ (notS_c (by omega) (notS_c (by omega) (notS_c (by omega) (notS_c (by omega) (notS_c (by omega) (notS_c (by omega) (notS_c (by omega) notS_n)))))))) ?_
          refine r_pi (pc' := 54) rfl rfl sh_225 rfl rfl hst (inS_s (inS_s (inS_s (inS_0 (by omega) (by omega) (by omega) (by omega))))) (wr_225_38 ⟨by omega, by omega⟩) (fun z123 hq124 hs125 => ?_)
          refine r_ld (pc' := 55) rfl rfl rfl rfl ?_
          refine r_c0 (pc' := 56) rfl rfl ?_
          refine r_pi (pc' := 59) rfl rfl sh_225 rfl rfl hs125 (inS_s (inS_s (inS_s (inS_s (inS_0 (by omega) (by omega) (by omega) (by omega)))))) (wr_225_39 ⟨by omega, by omega⟩) (fun z126 hq127 hs128 => ?_)
          refine r_c0 (pc' := 60) rfl rfl ?_
          refine r_st (pc' := 61) (lv' := [(3, _), (0, _), (2, _)]) rfl rfl rfl rfl ?_
          have hb129 := rd_225_42 hst.1
          have hf130 : z126 225 42 = z 225 42 := (((congrFun (congrFun hq127 _) _).trans (mu_ne (by omega))).trans ((congrFun (congrFun hq124 _) _).trans (mu_ne (by omega))))
          have hf131 : z126 225 38 = z0 241 x2.toNat := (((congrFun (congrFun hq127 _) _).trans (mu_ne (by omega))).trans ((congrFun (congrFun hq124 _) _).trans mu_eq))
          have hf132 : z126 225 39 = 0 := ((congrFun (congrFun hq127 _) _).trans mu_eq)
          have hF133 : z126 243 = z 243 := (((congrFun hq127 _).trans (mu_fn (by omega))).trans ((congrFun hq124 _).trans (mu_fn (by omega))))
          have hF134 : z126 244 = z 244 := (((congrFun hq127 _).trans (mu_fn (by omega))).trans ((congrFun hq124 _).trans (mu_fn (by omega))))
          exact w_lv (sub_c rfl (sub_c rfl (sub_c rfl sub_n))) rfl (ih2 x2 1 z126 w ⟨by omega, by omega⟩ ⟨by omega, by omega⟩ hs128 (by first | exact as0 | exact hlr | (simp only [hF133, hF134, hf130, hf131, hf132]; exact as0) | (simp only [hF133, hF134, hf130, hf131, hf132]; exact hlr)) (by first | (rw [show (z126 225 42).toNat = (z 225 42).toNat + 1 by omega]; exact hnx) | (unfold cu; simp only [hF133, hF134, hf130, hf131, hf132]; rfl) | (unfold cu; simp only [hF133, hF134, hf130, hf131, hf132]; rw [show (z 225 42).toNat = 0 by omega]; rfl)) (by first | (intro j h1 h2; exfalso; omega) | (intro j h1 h2; by_cases c : j < (z 225 42).toNat; exact as2 j h1 c; (rw [show j = (z 225 42).toNat by omega, ← as1]; exact (as3 (by omega)).resolve_left (by omega)))) (by first | (intro h; exfalso; omega) | (intro _; left; omega) | (intro _; right; intro q; have q1 : (z126 225 38).toNat = (z0 241 x2.toNat).toNat := congrArg Prod.fst q; have q2 : z126 225 39 = 0 := congrArg Prod.snd q; omega)) (by first | exact as4 | (have hfl := WT.fL hrw x2.toNat (by omega); refine ⟨⟨by show (((z0 241 x2.toNat).toNat : Nat) : Int) < _; omega, by show (0 : Int) ≤ 0; omega, ?_⟩, by omega, by omega⟩; show (0 : Int) < (tr (rE z0) (w0 270)) (z0 235 (z0 241 x2.toNat).toNat).toNat; rw [hfl.2.2, show ((x2.toNat : Nat) : Int).toNat = x2.toNat by omega, tr_l (by omega), ← as0.1 x2.toNat (by omega)]; have := rd_243 hst.1 (i := x2.toNat) (by omega); have := as2.2 (by omega); omega)) (by omega))
        · skip
          exact r_ret rfl (po_V hst rfl)
      · intro x2 x3 z w  hx2 hx3 hst as0 as1 as2 as3 as4 hM
        have hcv : vd (z0 225 26) (z0 235) (tr (rE z0) (w0 270)) (cu z) := by rw [as1]; exact tk_v hrw hft as4.1 _
        refine r_ld (pc' := 62) rfl rfl rfl rfl ?_
        refine r_zeq (pc' := 65) rfl rfl ⟨by omega, by omega⟩ (fun hc135 => ?_) (fun hc135 => ?_)
        · skip
          exact r_ret rfl (po_V hst rfl)
        · skip
          refine r_ld (pc' := 66) rfl rfl rfl rfl ?_
          have hkb := tk_n hrw hft as4.1 (k := (z 225 42).toNat + 1) (fun j h1 h2 => by by_cases c : j < (z 225 42).toNat; exact as2 j h1 c; (rw [show j = (z 225 42).toNat by omega, ← as1]; exact (as3 (by omega)).resolve_left (by omega)))
          refine r_gr (b := 246) (pc' := 69) rfl rfl sh_225 rfl pp_225_41 ?_
          refine r_ld (pc' := 70) rfl rfl rfl rfl ?_
          have hb136 := rd_225_42 hst.1
          refine r_gi (pc' := 73) rfl rfl sh_225 rfl rfl ?_
          refine r_ld (pc' := 74) rfl rfl rfl rfl ?_
          have hb137 := rd_225_38 hst.1
          refine r_gi (pc' := 77) rfl rfl sh_225 rfl rfl ?_
          refine r_is (pc' := 78) rfl rfl sh_246 rfl (by omega) (by omega) hst (inS_s (inS_s (inS_s (inS_s (inS_s (inS_0 (by omega) (by omega) (by omega) (by omega))))))) (wr_246 ⟨by omega, by omega⟩) (fun z138 hq139 hs140 => ?_)
          refine r_ld (pc' := 79) rfl rfl rfl rfl ?_
          refine r_al (pc' := 80) rfl rfl rfl rfl ?_
          refine r_gi (pc' := 83) rfl rfl sh_225 rfl ((congrFun (congrFun hq139 _) _).trans (mu_ne (by omega))) ?_
          refine r_c0 (pc' := 84) rfl rfl ?_
          refine r_add (pc' := 85) rfl rfl ?_
          refine r_pi (pc' := 88) rfl rfl sh_225 rfl rfl hs140 (inS_s (inS_s (inS_0 (by omega) (by omega) (by omega) (by omega)))) (wr_225_42 ⟨by omega, by omega⟩) (fun z141 hq142 hs143 => ?_)
          refine r_ld (pc' := 89) rfl rfl rfl rfl ?_
          have q235 : z141 235 = z0 235 := funext fun i => hs143.2.2.1 _ _ (notS_c (by omega) (notS_c (by omega) (notS_c (by omega) (notS_c (by omega) (notS_c (by omega) (notS_c (by omega) (notS_c (by omega) (notS_n))))))))
          have q240 : z141 240 = z0 240 := funext fun i => hs143.2.2.1 _ _ (notS_c (by omega) (notS_c (by omega) (notS_c (by omega) (notS_c (by omega) (notS_c (by omega) (notS_c (by omega) (notS_c (by omega) (notS_n))))))))
          have q241 : z141 241 = z0 241 := funext fun i => hs143.2.2.1 _ _ (notS_c (by omega) (notS_c (by omega) (notS_c (by omega) (notS_c (by omega) (notS_c (by omega) (notS_c (by omega) (notS_c (by omega) (notS_n))))))))
          have q26 : z141 225 26 = z0 225 26 := hs143.2.2.1 _ _ (notS_c (by omega) (notS_c (by omega) (notS_c (by omega) (notS_c (by omega) (notS_c (by omega) (notS_c (by omega) (notS_c (by omega) (notS_n))))))))
          have c38 : z141 225 38 = z 225 38 := (((congrFun (congrFun hq142 _) _).trans (mu_ne (by omega))).trans ((congrFun (congrFun hq139 _) _).trans (mu_ne (by omega))))
          have c39 : z141 225 39 = z 225 39 := (((congrFun (congrFun hq142 _) _).trans (mu_ne (by omega))).trans ((congrFun (congrFun hq139 _) _).trans (mu_ne (by omega))))
          have c243 : z141 243 = z 243 := funext fun i => (((congrFun (congrFun hq142 _) _).trans (mu_ne (by omega))).trans ((congrFun (congrFun hq139 _) _).trans (mu_ne (by omega))))
          have hr := nR_e (src := (w0 270)) q26 (fun e he => by rw [c243]; exact as0.1 e he)
          have hF144 : z141 235 = z0 235 := (((congrFun hq142 _).trans (mu_fn (by omega))).trans (((congrFun hq139 _).trans (mu_fn (by omega))).trans (funext fun _ => hst.2.2.1 _ _ (notS_c (by omega) (notS_c (by omega) (notS_c (by omega) (notS_c (by omega) (notS_c (by omega) (notS_c (by omega) (notS_c (by omega) notS_n))))))))))
          have hF145 : z141 240 = z0 240 := (((congrFun hq142 _).trans (mu_fn (by omega))).trans (((congrFun hq139 _).trans (mu_fn (by omega))).trans (funext fun _ => hst.2.2.1 _ _ (notS_c (by omega) (notS_c (by omega) (notS_c (by omega) (notS_c (by omega) (notS_c (by omega) (notS_c (by omega) (notS_c (by omega) notS_n))))))))))
          refine r_cVV (pc' := 92) rfl rfl rfl rfl rfl sh_225 (m_185v (d := d + 1)  hs143.1 hs143.2.1 (by exact RW_f hs143 (notS_c (by omega) (notS_c (by omega) (notS_c (by omega) (notS_c (by omega) (notS_c (by omega) (notS_c (by omega) (notS_c (by omega) (notS_n)))))))) (fun i => (notS_c (by omega) (notS_c (by omega) (notS_c (by omega) (notS_c (by omega) (notS_c (by omega) (notS_c (by omega) (notS_c (by omega) (notS_n))))))))) (fun i => (notS_c (by omega) (notS_c (by omega) (notS_c (by omega) (notS_c (by omega) (notS_c (by omega) (notS_c (by omega) (notS_c (by omega) (notS_n))))))))) (fun i => (notS_c (by omega) (notS_c (by omega) (notS_c (by omega) (notS_c (by omega) (notS_c (by omega) (notS_c (by omega) (notS_c (by omega) (notS_n))))))))) hrw) (by unfold vdR cu; rw [c38, c39, hr, q26, q235]; exact hcv)) (fun z147 w148 p149 hs151 hE152 => ?_)
          have hs153 := st_tr hs143 hs151 (sub_B rfl)
          obtain ⟨rfl, hE152⟩ := hE152
          have hgo := hE152
          rw [q235, q240, hr] at hgo
          unfold cu at hgo
          rw [c38, c39] at hgo
          refine r_ld (pc' := 93) rfl rfl rfl rfl ?_
          have r235 : z147 235 = z0 235 := funext fun i => hs153.2.2.1 _ _ (notS_c (by omega) (notS_c (by omega) (notS_c (by omega) (notS_c (by omega) (notS_c (by omega) (notS_c (by omega) (notS_c (by omega) (notS_n))))))))
          have r240 : z147 240 = z0 240 := funext fun i => hs153.2.2.1 _ _ (notS_c (by omega) (notS_c (by omega) (notS_c (by omega) (notS_c (by omega) (notS_c (by omega) (notS_c (by omega) (notS_c (by omega) (notS_n))))))))
          have r241 : z147 241 = z0 241 := funext fun i => hs153.2.2.1 _ _ (notS_c (by omega) (notS_c (by omega) (notS_c (by omega) (notS_c (by omega) (notS_c (by omega) (notS_c (by omega) (notS_c (by omega) (notS_n))))))))
          have r26 : z147 225 26 = z0 225 26 := hs153.2.2.1 _ _ (notS_c (by omega) (notS_c (by omega) (notS_c (by omega) (notS_c (by omega) (notS_c (by omega) (notS_c (by omega) (notS_c (by omega) (notS_n))))))))
          have d243 : z147 243 = z 243 := funext fun i => ((hs151.2.2.1 _ _ (notS_c (by omega) (notS_c (by omega) notS_n))).trans (((congrFun (congrFun hq142 _) _).trans (mu_ne (by omega))).trans ((congrFun (congrFun hq139 _) _).trans (mu_ne (by omega)))))
          have hr3 := nR_e (src := (w0 270)) r26 (fun e he => by rw [d243]; exact as0.1 e he)
          have hb154 := rd_225_26 hz
          have hf155 : z147 225 26 = z0 225 26 := ((hs151.2.2.1 _ _ (notS_c (by omega) (notS_c (by omega) notS_n))).trans (((congrFun (congrFun hq142 _) _).trans (mu_ne (by omega))).trans (((congrFun (congrFun hq139 _) _).trans (mu_ne (by omega))).trans (hst.2.2.1 _ _ (notS_c (by omega) (notS_c (by omega) (notS_c (by omega) (notS_c (by omega) (notS_c (by omega) (notS_c (by omega) (notS_c (by omega) notS_n)))))))))))
          have hF156 : z147 235 = z0 235 := ((funext fun _ => hs151.2.2.1 _ _ (notS_c (by omega) (notS_c (by omega) notS_n))).trans (((congrFun hq142 _).trans (mu_fn (by omega))).trans (((congrFun hq139 _).trans (mu_fn (by omega))).trans (funext fun _ => hst.2.2.1 _ _ (notS_c (by omega) (notS_c (by omega) (notS_c (by omega) (notS_c (by omega) (notS_c (by omega) (notS_c (by omega) (notS_c (by omega) notS_n)))))))))))
          refine r_cVV (pc' := 96) rfl rfl rfl rfl rfl sh_225 (m_184v (d := d)  hs153.1 hs153.2.1 (by exact RW_f hs153 (notS_c (by omega) (notS_c (by omega) (notS_c (by omega) (notS_c (by omega) (notS_c (by omega) (notS_c (by omega) (notS_c (by omega) (notS_n)))))))) (fun i => (notS_c (by omega) (notS_c (by omega) (notS_c (by omega) (notS_c (by omega) (notS_c (by omega) (notS_c (by omega) (notS_c (by omega) (notS_n))))))))) (fun i => (notS_c (by omega) (notS_c (by omega) (notS_c (by omega) (notS_c (by omega) (notS_c (by omega) (notS_c (by omega) (notS_c (by omega) (notS_n))))))))) (fun i => (notS_c (by omega) (notS_c (by omega) (notS_c (by omega) (notS_c (by omega) (notS_c (by omega) (notS_c (by omega) (notS_c (by omega) (notS_n))))))))) hrw) (by rw [hr3, r26, r235]; exact hft) (by unfold vdR cu; rw [hgo, hr3, r26, r235]; exact (vv_v hrw hcv).1)) (fun z158 w159 p160 hs162 hE163 => ?_)
          have hs164 := st_tr hs153 hs162 (sub_B rfl)
          obtain ⟨rfl, hE163⟩ := hE163
          have hgt := hE163
          rw [r235, hr3] at hgt
          unfold cu at hgt
          rw [hgo] at hgt
          have hnx : cu z158 = tk (z0 235) (z0 240) (tr (rE z0) (w0 270)) ((z0 241 x2.toNat).toNat, 0) ((z 225 42).toNat + 1) := by show _ = gg _ _ (vv _ _ _ (tk (z0 235) (z0 240) (tr (rE z0) (w0 270)) ((z0 241 x2.toNat).toNat, 0) (z 225 42).toNat)); rw [← as1]; exact hgt
          refine r_ld (pc' := 97) rfl rfl rfl rfl ?_
          have hb165 := rd_225_38 hs164.1
          refine r_gi (pc' := 100) rfl rfl sh_225 rfl rfl ?_
          refine r_ld (pc' := 101) rfl rfl rfl rfl ?_
          refine r_gr (b := 241) (pc' := 104) rfl rfl sh_225 rfl pp_225_30 ?_
          refine r_ld (pc' := 105) rfl rfl rfl rfl ?_
          have hb166 := rd_241 hz (i := x2.toNat) (by omega)
          refine r_ia (pc' := 106) rfl rfl sh_241 rfl (by omega) (by omega) ((hs162.2.2.1 _ _ (notS_c (by omega) (notS_c (by omega) (notS_c (by omega) notS_n)))).trans ((hs151.2.2.1 _ _ (notS_c (by omega) (notS_c (by omega) notS_n))).trans (((congrFun (congrFun hq142 _) _).trans (mu_ne (by omega))).trans (((congrFun (congrFun hq139 _) _).trans (mu_ne (by omega))).trans (hst.2.2.1 _ _ (notS_c (by omega) (notS_c (by omega) (notS_c (by omega) (notS_c (by omega) (notS_c (by omega) (notS_c (by omega) (notS_c (by omega) notS_n)))))))))))) ?_
          refine r_ine (pc' := 109) rfl rfl ⟨by omega, by omega⟩ ⟨by omega, by omega⟩ (fun hc167 => ?_) (fun hc167 => ?_)
          · skip
            refine r_c0 (pc' := 117) rfl rfl ?_
            refine r_go rfl ?_
            refine r_st (pc' := 122) (lv' := [(3, _), (0, _), (2, _)]) rfl rfl rfl rfl ?_
            refine r_go rfl ?_
            have hf168 : z158 225 42 = (z 225 42) + 1 := ((hs162.2.2.1 _ _ (notS_c (by omega) (notS_c (by omega) (notS_c (by omega) notS_n)))).trans ((hs151.2.2.1 _ _ (notS_c (by omega) (notS_c (by omega) notS_n))).trans ((congrFun (congrFun hq142 _) _).trans mu_eq)))
            have hb169 := rd_225_39 hs164.1
            have hF170 : z158 243 = z 243 := ((funext fun _ => hs162.2.2.1 _ _ (notS_c (by omega) (notS_c (by omega) (notS_c (by omega) notS_n)))).trans ((funext fun _ => hs151.2.2.1 _ _ (notS_c (by omega) (notS_c (by omega) notS_n))).trans (((congrFun hq142 _).trans (mu_fn (by omega))).trans ((congrFun hq139 _).trans (mu_fn (by omega))))))
            have hF171 : z158 244 = z 244 := ((funext fun _ => hs162.2.2.1 _ _ (notS_c (by omega) (notS_c (by omega) (notS_c (by omega) notS_n)))).trans ((funext fun _ => hs151.2.2.1 _ _ (notS_c (by omega) (notS_c (by omega) notS_n))).trans (((congrFun hq142 _).trans (mu_fn (by omega))).trans ((congrFun hq139 _).trans (mu_fn (by omega))))))
            exact w_lv (sub_c rfl (sub_c rfl (sub_c rfl sub_n))) rfl (ih2 x2 1 z158 w159 ⟨by omega, by omega⟩ ⟨by omega, by omega⟩ hs164 (by first | exact as0 | exact hlr | (simp only [hF170, hF171, hf168]; exact as0) | (simp only [hF170, hF171, hf168]; exact hlr)) (by first | (rw [show (z158 225 42).toNat = (z 225 42).toNat + 1 by omega]; exact hnx) | (unfold cu; simp only [hF170, hF171, hf168]; rfl) | (unfold cu; simp only [hF170, hF171, hf168]; rw [show (z 225 42).toNat = 0 by omega]; rfl)) (by first | (intro j h1 h2; exfalso; omega) | (intro j h1 h2; by_cases c : j < (z 225 42).toNat; exact as2 j h1 c; (rw [show j = (z 225 42).toNat by omega, ← as1]; exact (as3 (by omega)).resolve_left (by omega)))) (by first | (intro h; exfalso; omega) | (intro _; left; omega) | (intro _; right; intro q; have q1 : (z158 225 38).toNat = (z0 241 x2.toNat).toNat := congrArg Prod.fst q; have q2 : z158 225 39 = 0 := congrArg Prod.snd q; omega)) (by first | exact as4 | (have hfl := WT.fL hrw x2.toNat (by omega); refine ⟨⟨by show (((z0 241 x2.toNat).toNat : Nat) : Int) < _; omega, by show (0 : Int) ≤ 0; omega, ?_⟩, by omega, by omega⟩; show (0 : Int) < (tr (rE z0) (w0 270)) (z0 235 (z0 241 x2.toNat).toNat).toNat; rw [hfl.2.2, show ((x2.toNat : Nat) : Int).toNat = x2.toNat by omega, tr_l (by omega), ← as0.1 x2.toNat (by omega)]; have := rd_243 hst.1 (i := x2.toNat) (by omega); have := as2.2 (by omega); omega)) (by omega))
          · skip
            refine r_ld (pc' := 110) rfl rfl rfl rfl ?_
            have hb172 := rd_225_39 hs164.1
            refine r_gi (pc' := 113) rfl rfl sh_225 rfl rfl ?_
            refine r_zeq (pc' := 116) rfl rfl ⟨by omega, by omega⟩ (fun hc173 => ?_) (fun hc173 => ?_)
            · skip
              refine r_c0 (pc' := 121) rfl rfl ?_
              refine r_st (pc' := 122) (lv' := [(3, _), (0, _), (2, _)]) rfl rfl rfl rfl ?_
              refine r_go rfl ?_
              have hf174 : z158 225 42 = (z 225 42) + 1 := ((hs162.2.2.1 _ _ (notS_c (by omega) (notS_c (by omega) (notS_c (by omega) notS_n)))).trans ((hs151.2.2.1 _ _ (notS_c (by omega) (notS_c (by omega) notS_n))).trans ((congrFun (congrFun hq142 _) _).trans mu_eq)))
              have hF175 : z158 243 = z 243 := ((funext fun _ => hs162.2.2.1 _ _ (notS_c (by omega) (notS_c (by omega) (notS_c (by omega) notS_n)))).trans ((funext fun _ => hs151.2.2.1 _ _ (notS_c (by omega) (notS_c (by omega) notS_n))).trans (((congrFun hq142 _).trans (mu_fn (by omega))).trans ((congrFun hq139 _).trans (mu_fn (by omega))))))
              have hF176 : z158 244 = z 244 := ((funext fun _ => hs162.2.2.1 _ _ (notS_c (by omega) (notS_c (by omega) (notS_c (by omega) notS_n)))).trans ((funext fun _ => hs151.2.2.1 _ _ (notS_c (by omega) (notS_c (by omega) notS_n))).trans (((congrFun hq142 _).trans (mu_fn (by omega))).trans ((congrFun hq139 _).trans (mu_fn (by omega))))))
              exact w_lv (sub_c rfl (sub_c rfl (sub_c rfl sub_n))) rfl (ih2 x2 0 z158 w159 ⟨by omega, by omega⟩ ⟨by omega, by omega⟩ hs164 (by first | exact as0 | exact hlr | (simp only [hF175, hF176, hf174]; exact as0) | (simp only [hF175, hF176, hf174]; exact hlr)) (by first | (rw [show (z158 225 42).toNat = (z 225 42).toNat + 1 by omega]; exact hnx) | (unfold cu; simp only [hF175, hF176, hf174]; rfl) | (unfold cu; simp only [hF175, hF176, hf174]; rw [show (z 225 42).toNat = 0 by omega]; rfl)) (by first | (intro j h1 h2; exfalso; omega) | (intro j h1 h2; by_cases c : j < (z 225 42).toNat; exact as2 j h1 c; (rw [show j = (z 225 42).toNat by omega, ← as1]; exact (as3 (by omega)).resolve_left (by omega)))) (by first | (intro h; exfalso; omega) | (intro _; left; omega) | (intro _; right; intro q; have q1 : (z158 225 38).toNat = (z0 241 x2.toNat).toNat := congrArg Prod.fst q; have q2 : z158 225 39 = 0 := congrArg Prod.snd q; omega)) (by first | exact as4 | (have hfl := WT.fL hrw x2.toNat (by omega); refine ⟨⟨by show (((z0 241 x2.toNat).toNat : Nat) : Int) < _; omega, by show (0 : Int) ≤ 0; omega, ?_⟩, by omega, by omega⟩; show (0 : Int) < (tr (rE z0) (w0 270)) (z0 235 (z0 241 x2.toNat).toNat).toNat; rw [hfl.2.2, show ((x2.toNat : Nat) : Int).toNat = x2.toNat by omega, tr_l (by omega), ← as0.1 x2.toNat (by omega)]; have := rd_243 hst.1 (i := x2.toNat) (by omega); have := as2.2 (by omega); omega)) (by omega))
            · skip
              refine r_c0 (pc' := 117) rfl rfl ?_
              refine r_go rfl ?_
              refine r_st (pc' := 122) (lv' := [(3, _), (0, _), (2, _)]) rfl rfl rfl rfl ?_
              refine r_go rfl ?_
              have hf177 : z158 225 42 = (z 225 42) + 1 := ((hs162.2.2.1 _ _ (notS_c (by omega) (notS_c (by omega) (notS_c (by omega) notS_n)))).trans ((hs151.2.2.1 _ _ (notS_c (by omega) (notS_c (by omega) notS_n))).trans ((congrFun (congrFun hq142 _) _).trans mu_eq)))
              have hF178 : z158 243 = z 243 := ((funext fun _ => hs162.2.2.1 _ _ (notS_c (by omega) (notS_c (by omega) (notS_c (by omega) notS_n)))).trans ((funext fun _ => hs151.2.2.1 _ _ (notS_c (by omega) (notS_c (by omega) notS_n))).trans (((congrFun hq142 _).trans (mu_fn (by omega))).trans ((congrFun hq139 _).trans (mu_fn (by omega))))))
              have hF179 : z158 244 = z 244 := ((funext fun _ => hs162.2.2.1 _ _ (notS_c (by omega) (notS_c (by omega) (notS_c (by omega) notS_n)))).trans ((funext fun _ => hs151.2.2.1 _ _ (notS_c (by omega) (notS_c (by omega) notS_n))).trans (((congrFun hq142 _).trans (mu_fn (by omega))).trans ((congrFun hq139 _).trans (mu_fn (by omega))))))
              exact w_lv (sub_c rfl (sub_c rfl (sub_c rfl sub_n))) rfl (ih2 x2 1 z158 w159 ⟨by omega, by omega⟩ ⟨by omega, by omega⟩ hs164 (by first | exact as0 | exact hlr | (simp only [hF178, hF179, hf177]; exact as0) | (simp only [hF178, hF179, hf177]; exact hlr)) (by first | (rw [show (z158 225 42).toNat = (z 225 42).toNat + 1 by omega]; exact hnx) | (unfold cu; simp only [hF178, hF179, hf177]; rfl) | (unfold cu; simp only [hF178, hF179, hf177]; rw [show (z 225 42).toNat = 0 by omega]; rfl)) (by first | (intro j h1 h2; exfalso; omega) | (intro j h1 h2; by_cases c : j < (z 225 42).toNat; exact as2 j h1 c; (rw [show j = (z 225 42).toNat by omega, ← as1]; exact (as3 (by omega)).resolve_left (by omega)))) (by first | (intro h; exfalso; omega) | (intro _; left; omega) | (intro _; right; intro q; have q1 : (z158 225 38).toNat = (z0 241 x2.toNat).toNat := congrArg Prod.fst q; have q2 : z158 225 39 = 0 := congrArg Prod.snd q; omega)) (by first | exact as4 | (have hfl := WT.fL hrw x2.toNat (by omega); refine ⟨⟨by show (((z0 241 x2.toNat).toNat : Nat) : Int) < _; omega, by show (0 : Int) ≤ 0; omega, ?_⟩, by omega, by omega⟩; show (0 : Int) < (tr (rE z0) (w0 270)) (z0 235 (z0 241 x2.toNat).toNat).toNat; rw [hfl.2.2, show ((x2.toNat : Nat) : Int).toNat = x2.toNat by omega, tr_l (by omega), ← as0.1 x2.toNat (by omega)]; have := rd_243 hst.1 (i := x2.toNat) (by omega); have := as2.2 (by omega); omega)) (by omega))
  refine w_m rfl rfl ?_
  refine r_ld (pc' := 1) rfl rfl rfl rfl ?_
  refine r_ld (pc' := 2) rfl rfl rfl rfl ?_
  refine r_cVV (pc' := 5) rfl rfl rfl rfl rfl sh_225 (m_180n (d := d + 1) a1 hst.1 hst.2.1 ⟨by omega, by omega⟩ (by exact hsm)) (fun z181 w182 p183 hs185 hE186 => ?_)
  have hs187 := st_tr hst hs185 (sub_B rfl)
  obtain ⟨rfl, hE186⟩ := hE186
  have hlr := hE186
  refine r_ld (pc' := 6) rfl rfl rfl rfl ?_
  refine r_c0 (pc' := 7) rfl rfl ?_
  refine r_pi (pc' := 10) rfl rfl sh_225 rfl rfl hs187 (inS_s (inS_s (inS_0 (by omega) (by omega) (by omega) (by omega)))) (wr_225_42 ⟨by omega, by omega⟩) (fun z188 hq189 hs190 => ?_)
  refine r_c0 (pc' := 11) rfl rfl ?_
  refine r_st (pc' := 12) (lv' := [(2, _), (0, _), (1, _)]) rfl rfl rfl rfl ?_
  have hf191 : z188 225 42 = 0 := ((congrFun (congrFun hq189 _) _).trans mu_eq)
  have hb192 := rd_225_38 hz
  have hf193 : z188 225 38 = z0 225 38 := (((congrFun (congrFun hq189 _) _).trans (mu_ne (by omega))).trans (hs185.2.2.1 _ _ (notS_c (by omega) (notS_c (by omega) notS_n))))
  have hb194 := rd_225_39 hz
  have hf195 : z188 225 39 = z0 225 39 := (((congrFun (congrFun hq189 _) _).trans (mu_ne (by omega))).trans (hs185.2.2.1 _ _ (notS_c (by omega) (notS_c (by omega) notS_n))))
  have hF196 : z188 243 = z181 243 := ((congrFun hq189 _).trans (mu_fn (by omega)))
  have hF197 : z188 244 = z181 244 := ((congrFun hq189 _).trans (mu_fn (by omega)))
  have hb198 := rd_225_40 hz
  exact w_lv (sub_c rfl (sub_c rfl sub_n)) rfl ((key ((70 * (18 - 0) + 20061 : Int).toNat + 1)).1 0 z188 w182 ⟨by omega, by omega⟩ hs190 ((((congrFun (congrFun hq189 _) _).trans (mu_ne (by omega))).trans (hs185.2.2.1 _ _ (notS_c (by omega) (notS_c (by omega) notS_n))))) ((((congrFun (congrFun hq189 _) _).trans (mu_ne (by omega))).trans (hs185.2.2.1 _ _ (notS_c (by omega) (notS_c (by omega) notS_n))))) ((((congrFun (congrFun hq189 _) _).trans (mu_ne (by omega))).trans (hs185.2.2.1 _ _ (notS_c (by omega) (notS_c (by omega) notS_n))))) (by first | exact as0 | exact hlr | (simp only [hF196, hF197, hf191, hf193, hf195]; exact as0) | (simp only [hF196, hF197, hf191, hf193, hf195]; exact hlr)) (by first | omega | assumption | (simp only [hF196, hF197, hf191, hf193, hf195]; assumption)) (by first | omega | assumption | (simp only [hF196, hF197, hf191, hf193, hf195]; assumption)) (by omega))
/-- LoopGroundModel countLoops -/
abbrev S_187t  : mS := [(244, 244, 0, 18), (243, 243, 0, 17), (225, 225, 36, 36), (225, 225, 37, 37), (245, 245, 0, 17999), (225, 225, 38, 38), (225, 225, 39, 39), (225, 225, 40, 40)]
abbrev E_187t (a1 : Int) (z0 w0 : mZ) (x y tx it mt tt ct : Option Nat) : mZ → mZ → mP → Prop := fun z w p => p = (pq x y tx it mt tt ct) ∧ ((z 225 36 = 1 → CN (z0 225 26).toNat (vT (z0 235)) (oF (z0 235) (z0 241)) (tr (rE z0) (lnR z0 a1.toNat)) ∧ ∃ e : Nat, (e : Int) < rE z0 ∧ 0 < (tr (rE z0) (lnR z0 a1.toNat)) e))
theorem m_187t {d : Nat} {z0 w0 : mZ} {x y tx it mt tt ct : Option Nat} (a1 : Int) (hz : rz z0) (hw : rw_ w0) (ha1 : 0 ≤ a1 ∧ a1 ≤ 7) (hrw : RW z0) (hft : FT (z0 225 26).toNat (vT (z0 235)) (tr (rE z0) (lnR z0 a1.toNat))) (hsm : sm (tr (rE z0) (lnR z0 a1.toNat)) 18 ≤ 18000) : wc (d + 5) 187 [.ref 225, .int (Int32.ofInt a1)] (mk z0 w0 (pq x y tx it mt tt ct)) (poV S_187t z0 w0 (E_187t a1 z0 w0 x y tx it mt tt ct)) := by
  have hst : st_ S_187t z0 w0 z0 w0 := st_rf hz hw
  have hz77 := rd_225_26 hz
  have hm26 := rd_225_26 hz
  have hrE : rE z0 = 3 * z0 225 26 / 2 := rfl
  have key : ∀ N : Nat, (∀ (x2 : Int) (z w : mZ), 0 ≤ x2 ∧ x2 ≤ 18000 → st_ S_187t z0 w0 z w → z 225 38 = z0 225 38 → z 225 39 = z0 225 39 → z 225 40 = z0 225 40 → ((∀ e : Nat, (e : Int) < rE z0 → z 243 e = (lnR z0 a1.toNat) e) ∧ ∀ e : Nat, (e : Int) ≤ rE z0 → z 244 e = sm (tr (rE z0) (lnR z0 a1.toNat)) e) → (z 225 36 = 0) → (∀ j : Nat, (j : Int) < x2 → z 245 j = 0) → 74 * (18000 - x2) + 26644502 < (N : Int) → wp_ (d + 4) 187 4 none (17, [(0, .ref 225), (2, .int (Int32.ofInt x2))], [], mk z w (pq x y tx it mt tt ct)) (poV S_187t z0 w0 (E_187t a1 z0 w0 x y tx it mt tt ct))) ∧ (∀ (x2 : Int) (z w : mZ), 0 ≤ x2 ∧ x2 ≤ 18 → st_ S_187t z0 w0 z w → ((∀ e : Nat, (e : Int) < rE z0 → z 243 e = (lnR z0 a1.toNat) e) ∧ ∀ e : Nat, (e : Int) ≤ rE z0 → z 244 e = sm (tr (rE z0) (lnR z0 a1.toNat)) e) → (CI (z0 225 26) (rE z0) (z0 235) (z0 241) (tr (rE z0) (lnR z0 a1.toNat)) (WP z) (z 225 36) x2 0) → (z 225 36 ≤ 18000 * x2) → 1332222 * (18 - x2) + 1332194 < (N : Int) → wp_ (d + 4) 187 4 none (45, [(0, .ref 225), (2, .int (Int32.ofInt x2))], [], mk z w (pq x y tx it mt tt ct)) (poV S_187t z0 w0 (E_187t a1 z0 w0 x y tx it mt tt ct))) ∧ (∀ (x2 x3 : Int) (z w : mZ), 0 ≤ x2 ∧ x2 ≤ 17 → 0 ≤ x3 ∧ x3 ≤ 18000 → st_ S_187t z0 w0 z w → ((∀ e : Nat, (e : Int) < rE z0 → z 243 e = (lnR z0 a1.toNat) e) ∧ ∀ e : Nat, (e : Int) ≤ rE z0 → z 244 e = sm (tr (rE z0) (lnR z0 a1.toNat)) e) → (CI (z0 225 26) (rE z0) (z0 235) (z0 241) (tr (rE z0) (lnR z0 a1.toNat)) (WP z) (z 225 36) x2 x3) → (z 225 36 ≤ 18000 * x2 + x3) → (x2 < rE z0) → 1332222 * (18 - x2) + 74 * (18000 - x3) + 40 < (N : Int) → wp_ (d + 4) 187 4 none (55, [(0, .ref 225), (2, .int (Int32.ofInt x2)), (3, .int (Int32.ofInt x3))], [], mk z w (pq x y tx it mt tt ct)) (poV S_187t z0 w0 (E_187t a1 z0 w0 x y tx it mt tt ct))) := by
    intro N
    induction N with
    | zero =>
      refine ⟨?_, ?_, ?_⟩
      · intro x2 z w
        intros; exfalso; omega
      · intro x2 z w
        intros; exfalso; omega
      · intro x2 x3 z w
        intros; exfalso; omega
    | succ N ih =>
      obtain ⟨ih0, ih1, ih2⟩ := ih
      refine ⟨?_, ?_, ?_⟩
      · intro x2 z w  hx2 hst un_z_225_38 un_z_225_39 un_z_225_40 as0 as1 as2 hM
        have hE18 : 0 ≤ rE z0 ∧ rE z0 ≤ 18 := by omega
        refine r_ld (pc' := 18) rfl rfl rfl rfl ?_
        refine r_ld (pc' := 19) rfl rfl rfl rfl ?_
        refine r_gr (b := 244) (pc' := 22) rfl rfl sh_225 rfl pp_225_34 ?_
        refine r_ld (pc' := 23) rfl rfl rfl rfl ?_
        have hb78 := rd_225_26 hz
        have hf79 : z 225 26 = z0 225 26 := (hst.2.2.1 _ _ (notS_c (by omega) (notS_c (by omega) (notS_c (by omega) (notS_c (by omega) (notS_c (by omega) (notS_c (by omega) (notS_c (by omega) (notS_c (by omega) notS_n)))))))))
        refine r_cVI (pc' := 26) rfl rfl rfl rfl rfl sh_225 (m_161 (d := d + 3)  hst.1 hst.2.1 ) (fun v80 z81 w82 p83 h84 hs85 hE86 => ?_)
        obtain ⟨rfl, rfl, rfl, hE86⟩ := hE86
        have hb23 : z 244 v80.toNat = sm (tr (rE z0) (lnR z0 a1.toNat)) 18 := by rw [show v80.toNat = (rE z0).toNat by omega, as0.2 _ (by omega), ← sm_tr (by omega) (by omega)]
        have hb88 := rd_244 hst.1 (i := v80.toNat) (by omega)
        refine r_ia (pc' := 27) rfl rfl sh_244 rfl (by omega) (by omega) rfl ?_
        refine r_ige (pc' := 30) rfl rfl ⟨by omega, by omega⟩ ⟨by omega, by omega⟩ (fun hc89 => ?_) (fun hc89 => ?_)
        · skip
          refine r_c0 (pc' := 44) rfl rfl ?_
          refine r_st (pc' := 45) (lv' := [(2, _), (0, _)]) rfl rfl rfl rfl ?_
          have hb90 := rd_225_36 hst.1
          exact w_lv (sub_c rfl (sub_c rfl sub_n)) rfl (ih1 0 z w ⟨by omega, by omega⟩ hst (by first | exact as0 | exact hlr | (simp only []; exact as0) | (simp only []; exact hlr)) (by first | exact CI_e as1 (by omega) (by rw [hx]; omega) | (rw [as1]; exact CI_0 (fun k hk q => q (as2 k (by omega))))) (by first | omega | assumption) (by omega))
        · skip
          refine r_ld (pc' := 31) rfl rfl rfl rfl ?_
          refine r_gr (b := 245) (pc' := 34) rfl rfl sh_225 rfl pp_225_35 ?_
          refine r_ld (pc' := 35) rfl rfl rfl rfl ?_
          refine r_c0 (pc' := 36) rfl rfl ?_
          refine r_zs (pc' := 37) rfl rfl sh_245 rfl (by omega) (by omega) (by omega) hst (inS_s (inS_s (inS_s (inS_s (inS_0 (by omega) (by omega) (by omega) (by omega)))))) (wr_245 ⟨by omega, by omega⟩) (fun z91 hq92 hs93 => ?_)
          have hqz := hq92
          refine r_inc (pc' := 40) (lv' := [(0, _)]) rfl rfl rfl rfl rfl ?_
          refine r_go rfl ?_
          have hb94 := rd_225_36 hst.1
          have hf95 : z91 225 36 = z 225 36 := ((congrFun (congrFun hq92 _) _).trans (mu_ne (by omega)))
          have hF96 : z91 243 = z 243 := ((congrFun hq92 _).trans (mu_fn (by omega)))
          have hF97 : z91 244 = z 244 := ((congrFun hq92 _).trans (mu_fn (by omega)))
          have hb98 := rd_225_38 hz
          have hb99 := rd_225_39 hz
          have hb100 := rd_225_40 hz
          exact w_lv (sub_c rfl (sub_c rfl sub_n)) rfl (ih0 (x2 + 1) z91 w ⟨by omega, by omega⟩ hs93 ((((congrFun (congrFun hq92 _) _).trans (mu_ne (by omega))).trans un_z_225_38)) ((((congrFun (congrFun hq92 _) _).trans (mu_ne (by omega))).trans un_z_225_39)) ((((congrFun (congrFun hq92 _) _).trans (mu_ne (by omega))).trans un_z_225_40)) (by first | exact as0 | exact hlr | (simp only [hF96, hF97, hf95]; exact as0) | (simp only [hF96, hF97, hf95]; exact hlr)) (by first | omega | assumption | (simp only [hF96, hF97, hf95]; assumption)) (by first | (intro j hj; exfalso; omega) | (intro j hj; rw [hqz]; by_cases c : j = x2.toNat; (subst c; exact mu_eq); (rw [mu_ne (by omega)]; exact as2 j (by omega)))) (by omega))
      · intro x2 z w  hx2 hst as0 as1 as2 hM
        refine r_ld (pc' := 46) rfl rfl rfl rfl ?_
        refine r_ld (pc' := 47) rfl rfl rfl rfl ?_
        have hb101 := rd_225_26 hz
        have hf102 : z 225 26 = z0 225 26 := (hst.2.2.1 _ _ (notS_c (by omega) (notS_c (by omega) (notS_c (by omega) (notS_c (by omega) (notS_c (by omega) (notS_c (by omega) (notS_c (by omega) (notS_c (by omega) notS_n)))))))))
        refine r_cVI (pc' := 50) rfl rfl rfl rfl rfl sh_225 (m_161 (d := d + 3)  hst.1 hst.2.1 ) (fun v103 z104 w105 p106 h107 hs108 hE109 => ?_)
        obtain ⟨rfl, rfl, rfl, hE109⟩ := hE109
        refine r_ige (pc' := 53) rfl rfl ⟨by omega, by omega⟩ ⟨by omega, by omega⟩ (fun hc111 => ?_) (fun hc111 => ?_)
        · skip
          have hb112 := rd_225_36 hst.1
          exact r_ret rfl (po_V hst ⟨rfl, (by intro h; rw [h] at as1; exact CI_end hrw as1 (by omega))⟩)
        · skip
          refine r_c0 (pc' := 54) rfl rfl ?_
          refine r_st (pc' := 55) (lv' := [(3, _), (0, _), (2, _)]) rfl rfl rfl rfl ?_
          have hb113 := rd_225_36 hst.1
          exact w_lv (sub_c rfl (sub_c rfl (sub_c rfl sub_n))) rfl (ih2 x2 0 z w ⟨by omega, by omega⟩ ⟨by omega, by omega⟩ hst (by first | exact as0 | exact hlr | (simp only []; exact as0) | (simp only []; exact hlr)) (by first | exact as1 | exact CI_p hft.1 (by omega) as1 (by omega) (by omega) (by omega) (by rw [hx]; omega) (by unfold WP; rw [← hx4]; omega) | exact CI_n (by omega) as1 (by omega) (by omega) (by omega) (by rw [hx]; omega) (by omega) hft.1 (fun p => PS_c (fun k q => by unfold WP at q ⊢; rw [show z 245 k = NOMARK 245 k from NOMARK] at q; exact q) (hri x2.toNat x3 (fun A _ => Iff.rfl) (PS_c (fun k q => by unfold WP at q ⊢; rw [gw k] at q; exact q) p)))) (by first | omega | assumption) (by first | omega | assumption) (by omega))
      · intro x2 x3 z w  hx2 hx3 hst as0 as1 as2 as3 hM
        have hx : (tr (rE z0) (lnR z0 a1.toNat)) x2.toNat = z 243 x2.toNat := by rw [tr_l (by omega), as0.1 x2.toNat (by omega)]
        have hx4 : z 244 x2.toNat = sm (tr (rE z0) (lnR z0 a1.toNat)) x2.toNat := as0.2 x2.toNat (by omega)
        have hci := as1.1
        refine r_ld (pc' := 56) rfl rfl rfl rfl ?_
        refine r_ld (pc' := 57) rfl rfl rfl rfl ?_
        refine r_gr (b := 243) (pc' := 60) rfl rfl sh_225 rfl pp_225_33 ?_
        refine r_ld (pc' := 61) rfl rfl rfl rfl ?_
        have hb114 := rd_243 hst.1 (i := x2.toNat) (by omega)
        refine r_ia (pc' := 62) rfl rfl sh_243 rfl (by omega) (by omega) rfl ?_
        refine r_ige (pc' := 65) rfl rfl ⟨by omega, by omega⟩ ⟨by omega, by omega⟩ (fun hc115 => ?_) (fun hc115 => ?_)
        · skip
          refine r_inc (pc' := 126) (lv' := [(0, _), (3, _)]) rfl rfl rfl rfl rfl ?_
          refine r_go rfl ?_
          have hb116 := rd_225_36 hst.1
          exact w_lv (sub_c rfl (sub_c rfl sub_n)) rfl (ih1 (x2 + 1) z w ⟨by omega, by omega⟩ hst (by first | exact as0 | exact hlr | (simp only []; exact as0) | (simp only []; exact hlr)) (by first | exact CI_e as1 (by omega) (by rw [hx]; omega) | (rw [as1]; exact CI_0 (fun k hk q => q (as2 k (by omega))))) (by first | omega | assumption) (by omega))
        · skip
          have hsb := sm_b hft.1 (e := x2.toNat) (i := x3) (by omega) (by omega) (by rw [hx]; omega)
          refine r_ld (pc' := 66) rfl rfl rfl rfl ?_
          refine r_gr (b := 245) (pc' := 69) rfl rfl sh_225 rfl pp_225_35 ?_
          refine r_ld (pc' := 70) rfl rfl rfl rfl ?_
          refine r_gr (b := 244) (pc' := 73) rfl rfl sh_225 rfl pp_225_34 ?_
          refine r_ld (pc' := 74) rfl rfl rfl rfl ?_
          have hb117 := rd_244 hst.1 (i := x2.toNat) (by omega)
          refine r_ia (pc' := 75) rfl rfl sh_244 rfl (by omega) (by omega) rfl ?_
          refine r_ld (pc' := 76) rfl rfl rfl rfl ?_
          refine r_add (pc' := 77) rfl rfl ?_
          have hb118 := rd_245 hst.1 (i := ((z 244 x2.toNat) + x3).toNat) (by omega)
          refine r_ba (pc' := 78) rfl rfl sh_245 (Or.inr rfl) rfl (by omega) (by omega) rfl ?_
          refine r_zeq (pc' := 81) rfl rfl ⟨by omega, by omega⟩ (fun hc119 => ?_) (fun hc119 => ?_)
          · skip
            refine r_ld (pc' := 85) rfl rfl rfl rfl ?_
            refine r_al (pc' := 86) rfl rfl rfl rfl ?_
            have hb120 := rd_225_36 hst.1
            refine r_gi (pc' := 89) rfl rfl sh_225 rfl rfl ?_
            refine r_c0 (pc' := 90) rfl rfl ?_
            refine r_add (pc' := 91) rfl rfl ?_
            refine w_hxi (fun v121 h122 h123 => ?_)
            refine r_pi (pc' := 94) rfl rfl sh_225 rfl rfl hst (inS_s (inS_s (inS_0 (by omega) (by omega) (by omega) (by omega)))) (wr_225_36 ⟨by omega, by omega⟩) (fun z124 hq125 hs126 => ?_)
            refine r_ld (pc' := 95) rfl rfl rfl rfl ?_
            refine r_al (pc' := 96) rfl rfl rfl rfl ?_
            have hb127 := rd_225_37 hst.1
            refine r_gi (pc' := 99) rfl rfl sh_225 rfl ((congrFun (congrFun hq125 _) _).trans (mu_ne (by omega))) ?_
            refine r_ld (pc' := 100) rfl rfl rfl rfl ?_
            refine r_ld (pc' := 101) rfl rfl rfl rfl ?_
            refine r_ld (pc' := 102) rfl rfl rfl rfl ?_
            have q235 : z124 235 = z0 235 := funext fun i => hs126.2.2.1 _ _ (notS_c (by omega) (notS_c (by omega) (notS_c (by omega) (notS_c (by omega) (notS_c (by omega) (notS_c (by omega) (notS_c (by omega) (notS_c (by omega) (notS_n)))))))))
            have q240 : z124 240 = z0 240 := funext fun i => hs126.2.2.1 _ _ (notS_c (by omega) (notS_c (by omega) (notS_c (by omega) (notS_c (by omega) (notS_c (by omega) (notS_c (by omega) (notS_c (by omega) (notS_c (by omega) (notS_n)))))))))
            have q241 : z124 241 = z0 241 := funext fun i => hs126.2.2.1 _ _ (notS_c (by omega) (notS_c (by omega) (notS_c (by omega) (notS_c (by omega) (notS_c (by omega) (notS_c (by omega) (notS_c (by omega) (notS_c (by omega) (notS_n)))))))))
            have q26 : z124 225 26 = z0 225 26 := hs126.2.2.1 _ _ (notS_c (by omega) (notS_c (by omega) (notS_c (by omega) (notS_c (by omega) (notS_c (by omega) (notS_c (by omega) (notS_c (by omega) (notS_c (by omega) (notS_n)))))))))
            have c243 : z124 243 = z 243 := funext fun i => ((congrFun (congrFun hq125 _) _).trans (mu_ne (by omega)))
            have c244 : z124 244 = z 244 := funext fun i => ((congrFun (congrFun hq125 _) _).trans (mu_ne (by omega)))
            have hr := RL_of q26 q235 hft hsm (fun e he => by rw [c243]; exact as0.1 e he) (fun e he => by rw [c244]; exact as0.2 e he)
            have gw : ∀ k, z124 245 k = z 245 k := fun k => ((congrFun (congrFun hq125 _) _).trans (mu_ne (by omega)))
            have hb128 := rd_225_26 hz
            have hf129 : z124 225 26 = z0 225 26 := (((congrFun (congrFun hq125 _) _).trans (mu_ne (by omega))).trans (hst.2.2.1 _ _ (notS_c (by omega) (notS_c (by omega) (notS_c (by omega) (notS_c (by omega) (notS_c (by omega) (notS_c (by omega) (notS_c (by omega) (notS_c (by omega) notS_n))))))))))
            have hF130 : z124 235 = z0 235 := (((congrFun hq125 _).trans (mu_fn (by omega))).trans (funext fun _ => hst.2.2.1 _ _ (notS_c (by omega) (notS_c (by omega) (notS_c (by omega) (notS_c (by omega) (notS_c (by omega) (notS_c (by omega) (notS_c (by omega) (notS_c (by omega) notS_n))))))))))
            have hF131 : z124 241 = z0 241 := (((congrFun hq125 _).trans (mu_fn (by omega))).trans (funext fun _ => hst.2.2.1 _ _ (notS_c (by omega) (notS_c (by omega) (notS_c (by omega) (notS_c (by omega) (notS_c (by omega) (notS_c (by omega) (notS_c (by omega) (notS_c (by omega) notS_n))))))))))
            refine r_cVI (pc' := 105) rfl rfl rfl rfl rfl sh_225 (m_188 (d := d) x2 x3 hs126.1 hs126.2.1 ⟨by omega, by omega⟩ ⟨by omega, by omega⟩ (by exact RW_f hs126 (notS_c (by omega) (notS_c (by omega) (notS_c (by omega) (notS_c (by omega) (notS_c (by omega) (notS_c (by omega) (notS_c (by omega) (notS_c (by omega) (notS_n))))))))) (fun i => (notS_c (by omega) (notS_c (by omega) (notS_c (by omega) (notS_c (by omega) (notS_c (by omega) (notS_c (by omega) (notS_c (by omega) (notS_c (by omega) (notS_n)))))))))) (fun i => (notS_c (by omega) (notS_c (by omega) (notS_c (by omega) (notS_c (by omega) (notS_c (by omega) (notS_c (by omega) (notS_c (by omega) (notS_c (by omega) (notS_n)))))))))) (fun i => (notS_c (by omega) (notS_c (by omega) (notS_c (by omega) (notS_c (by omega) (notS_c (by omega) (notS_c (by omega) (notS_c (by omega) (notS_c (by omega) (notS_n)))))))))) hrw) (by exact hr.1) (by show x2 < 3 * z124 225 26 / 2; rw [q26]; exact as3) (by rw [c243]; omega)) (fun v132 z133 w134 p135 h136 hs137 hE138 => ?_)
            have hs139 := st_tr hs126 hs137 (sub_B rfl)
            obtain ⟨rfl, hE138⟩ := hE138
            have hri := hE138.2.2
            unfold PSr at hri
            rw [q26, q235, q241, hr.2] at hri
            refine r_zeq (pc' := 108) rfl rfl ⟨by omega, by omega⟩ (fun hc140 => ?_) (fun hc140 => ?_)
            · skip
              refine r_c0 (pc' := 113) rfl rfl ?_
              refine r_add (pc' := 114) rfl rfl ?_
              refine r_pi (pc' := 117) rfl rfl sh_225 rfl rfl hs139 (inS_s (inS_s (inS_s (inS_0 (by omega) (by omega) (by omega) (by omega))))) (wr_225_37 ⟨by omega, by omega⟩) (fun z141 hq142 hs143 => ?_)
              refine r_inc (pc' := 120) (lv' := [(0, _), (2, _)]) rfl rfl rfl rfl rfl ?_
              refine r_go rfl ?_
              have hf144 : z141 225 36 = v121 := (((congrFun (congrFun hq142 _) _).trans (mu_ne (by omega))).trans ((hs137.2.2.1 _ _ (notS_c (by omega) (notS_c (by omega) (notS_c (by omega) (notS_c (by omega) notS_n))))).trans ((congrFun (congrFun hq125 _) _).trans mu_eq)))
              have hF145 : z141 243 = z 243 := (((congrFun hq142 _).trans (mu_fn (by omega))).trans ((funext fun _ => hs137.2.2.1 _ _ (notS_c (by omega) (notS_c (by omega) (notS_c (by omega) (notS_c (by omega) notS_n))))).trans ((congrFun hq125 _).trans (mu_fn (by omega)))))
              have hF146 : z141 244 = z 244 := (((congrFun hq142 _).trans (mu_fn (by omega))).trans ((funext fun _ => hs137.2.2.1 _ _ (notS_c (by omega) (notS_c (by omega) (notS_c (by omega) (notS_c (by omega) notS_n))))).trans ((congrFun hq125 _).trans (mu_fn (by omega)))))
              exact w_lv (sub_c rfl (sub_c rfl (sub_c rfl sub_n))) rfl (ih2 x2 (x3 + 1) z141 w134 ⟨by omega, by omega⟩ ⟨by omega, by omega⟩ hs143 (by first | exact as0 | exact hlr | (simp only [hF145, hF146, hf144]; exact as0) | (simp only [hF145, hF146, hf144]; exact hlr)) (by first | exact as1 | exact CI_p hft.1 (by omega) as1 (by omega) (by omega) (by omega) (by rw [hx]; omega) (by unfold WP; rw [← hx4]; omega) | exact CI_n (by omega) as1 (by omega) (by omega) (by omega) (by rw [hx]; omega) (by omega) hft.1 (fun p => PS_c (fun k q => by unfold WP at q ⊢; rw [show z141 245 k = z133 245 k from ((congrFun (congrFun hq142 _) _).trans (mu_ne (by omega)))] at q; exact q) (hri x2.toNat x3 (fun A _ => Iff.rfl) (PS_c (fun k q => by unfold WP at q ⊢; rw [gw k] at q; exact q) p)))) (by first | omega | assumption | (simp only [hF145, hF146, hf144]; assumption)) (by first | omega | assumption | (simp only [hF145, hF146, hf144]; assumption)) (by omega))
            · skip
              refine r_c0 (pc' := 109) rfl rfl ?_
              refine r_go rfl ?_
              refine r_add (pc' := 114) rfl rfl ?_
              refine w_hxi (fun v147 h148 h149 => ?_)
              refine r_pi (pc' := 117) rfl rfl sh_225 rfl rfl hs139 (inS_s (inS_s (inS_s (inS_0 (by omega) (by omega) (by omega) (by omega))))) (wr_225_37 ⟨by omega, by omega⟩) (fun z150 hq151 hs152 => ?_)
              refine r_inc (pc' := 120) (lv' := [(0, _), (2, _)]) rfl rfl rfl rfl rfl ?_
              refine r_go rfl ?_
              have hf153 : z150 225 36 = v121 := (((congrFun (congrFun hq151 _) _).trans (mu_ne (by omega))).trans ((hs137.2.2.1 _ _ (notS_c (by omega) (notS_c (by omega) (notS_c (by omega) (notS_c (by omega) notS_n))))).trans ((congrFun (congrFun hq125 _) _).trans mu_eq)))
              have hF154 : z150 243 = z 243 := (((congrFun hq151 _).trans (mu_fn (by omega))).trans ((funext fun _ => hs137.2.2.1 _ _ (notS_c (by omega) (notS_c (by omega) (notS_c (by omega) (notS_c (by omega) notS_n))))).trans ((congrFun hq125 _).trans (mu_fn (by omega)))))
              have hF155 : z150 244 = z 244 := (((congrFun hq151 _).trans (mu_fn (by omega))).trans ((funext fun _ => hs137.2.2.1 _ _ (notS_c (by omega) (notS_c (by omega) (notS_c (by omega) (notS_c (by omega) notS_n))))).trans ((congrFun hq125 _).trans (mu_fn (by omega)))))
              exact w_lv (sub_c rfl (sub_c rfl (sub_c rfl sub_n))) rfl (ih2 x2 (x3 + 1) z150 w134 ⟨by omega, by omega⟩ ⟨by omega, by omega⟩ hs152 (by first | exact as0 | exact hlr | (simp only [hF154, hF155, hf153]; exact as0) | (simp only [hF154, hF155, hf153]; exact hlr)) (by first | exact as1 | exact CI_p hft.1 (by omega) as1 (by omega) (by omega) (by omega) (by rw [hx]; omega) (by unfold WP; rw [← hx4]; omega) | exact CI_n (by omega) as1 (by omega) (by omega) (by omega) (by rw [hx]; omega) (by omega) hft.1 (fun p => PS_c (fun k q => by unfold WP at q ⊢; rw [show z150 245 k = z133 245 k from ((congrFun (congrFun hq151 _) _).trans (mu_ne (by omega)))] at q; exact q) (hri x2.toNat x3 (fun A _ => Iff.rfl) (PS_c (fun k q => by unfold WP at q ⊢; rw [gw k] at q; exact q) p)))) (by first | omega | assumption | (simp only [hF154, hF155, hf153]; assumption)) (by first | omega | assumption | (simp only [hF154, hF155, hf153]; assumption)) (by omega))
          · skip
            refine r_go rfl ?_
            refine r_inc (pc' := 120) (lv' := [(0, _), (2, _)]) rfl rfl rfl rfl rfl ?_
            refine r_go rfl ?_
            have hb156 := rd_225_36 hst.1
            exact w_lv (sub_c rfl (sub_c rfl (sub_c rfl sub_n))) rfl (ih2 x2 (x3 + 1) z w ⟨by omega, by omega⟩ ⟨by omega, by omega⟩ hst (by first | exact as0 | exact hlr | (simp only []; exact as0) | (simp only []; exact hlr)) (by first | exact as1 | exact CI_p hft.1 (by omega) as1 (by omega) (by omega) (by omega) (by rw [hx]; omega) (by unfold WP; rw [← hx4]; omega) | exact CI_n (by omega) as1 (by omega) (by omega) (by omega) (by rw [hx]; omega) (by omega) hft.1 (fun p => PS_c (fun k q => by unfold WP at q ⊢; rw [show z 245 k = NOMARK 245 k from NOMARK] at q; exact q) (hri x2.toNat x3 (fun A _ => Iff.rfl) (PS_c (fun k q => by unfold WP at q ⊢; rw [gw k] at q; exact q) p)))) (by first | omega | assumption) (by first | omega | assumption) (by omega))
  refine w_m rfl rfl ?_
  refine r_ld (pc' := 1) rfl rfl rfl rfl ?_
  refine r_ld (pc' := 2) rfl rfl rfl rfl ?_
  refine r_cVV (pc' := 5) rfl rfl rfl rfl rfl sh_225 (m_180t (d := d + 2) a1 hst.1 hst.2.1 ⟨by omega, by omega⟩ (by exact hsm)) (fun z158 w159 p160 hs162 hE163 => ?_)
  have hs164 := st_tr hst hs162 (sub_B rfl)
  obtain ⟨rfl, hE163⟩ := hE163
  have hlr := hE163
  refine r_ld (pc' := 6) rfl rfl rfl rfl ?_
  refine r_c0 (pc' := 7) rfl rfl ?_
  refine r_pi (pc' := 10) rfl rfl sh_225 rfl rfl hs164 (inS_s (inS_s (inS_0 (by omega) (by omega) (by omega) (by omega)))) (wr_225_36 ⟨by omega, by omega⟩) (fun z165 hq166 hs167 => ?_)
  refine r_ld (pc' := 11) rfl rfl rfl rfl ?_
  refine r_c0 (pc' := 12) rfl rfl ?_
  refine r_pi (pc' := 15) rfl rfl sh_225 rfl rfl hs167 (inS_s (inS_s (inS_s (inS_0 (by omega) (by omega) (by omega) (by omega))))) (wr_225_37 ⟨by omega, by omega⟩) (fun z168 hq169 hs170 => ?_)
  refine r_c0 (pc' := 16) rfl rfl ?_
  refine r_st (pc' := 17) (lv' := [(2, _), (0, _), (1, _)]) rfl rfl rfl rfl ?_
  have hf171 : z168 225 36 = 0 := (((congrFun (congrFun hq169 _) _).trans (mu_ne (by omega))).trans ((congrFun (congrFun hq166 _) _).trans mu_eq))
  have hF172 : z168 243 = z158 243 := (((congrFun hq169 _).trans (mu_fn (by omega))).trans ((congrFun hq166 _).trans (mu_fn (by omega))))
  have hF173 : z168 244 = z158 244 := (((congrFun hq169 _).trans (mu_fn (by omega))).trans ((congrFun hq166 _).trans (mu_fn (by omega))))
  have hb174 := rd_225_38 hz
  have hb175 := rd_225_39 hz
  have hb176 := rd_225_40 hz
  exact w_lv (sub_c rfl (sub_c rfl sub_n)) rfl ((key ((74 * (18000 - 0) + 26644502 : Int).toNat + 1)).1 0 z168 w159 ⟨by omega, by omega⟩ hs170 ((((congrFun (congrFun hq169 _) _).trans (mu_ne (by omega))).trans (((congrFun (congrFun hq166 _) _).trans (mu_ne (by omega))).trans (hs162.2.2.1 _ _ (notS_c (by omega) (notS_c (by omega) notS_n)))))) ((((congrFun (congrFun hq169 _) _).trans (mu_ne (by omega))).trans (((congrFun (congrFun hq166 _) _).trans (mu_ne (by omega))).trans (hs162.2.2.1 _ _ (notS_c (by omega) (notS_c (by omega) notS_n)))))) ((((congrFun (congrFun hq169 _) _).trans (mu_ne (by omega))).trans (((congrFun (congrFun hq166 _) _).trans (mu_ne (by omega))).trans (hs162.2.2.1 _ _ (notS_c (by omega) (notS_c (by omega) notS_n)))))) (by first | exact as0 | exact hlr | (simp only [hF172, hF173, hf171]; exact as0) | (simp only [hF172, hF173, hf171]; exact hlr)) (by first | omega | assumption | (simp only [hF172, hF173, hf171]; assumption)) (by first | (intro j hj; exfalso; omega) | (intro j hj; rw [hqz]; by_cases c : j = x2.toNat; (subst c; exact mu_eq); (rw [mu_ne (by omega)]; exact as2 j (by omega)))) (by omega))
/-- LoopGroundModel countLoops -/
abbrev S_187n  : mS := [(244, 244, 0, 18), (243, 243, 0, 17), (225, 225, 36, 36), (225, 225, 37, 37), (245, 245, 0, 17999), (225, 225, 38, 38), (225, 225, 39, 39), (225, 225, 40, 40)]
abbrev E_187n (a1 : Int) (z0 w0 : mZ) (x y tx it mt tt ct : Option Nat) : mZ → mZ → mP → Prop := fun z w p => p = (pq x y tx it mt tt ct) ∧ ((z 225 36 = 1 → CN (z0 225 26).toNat (vT (z0 235)) (oF (z0 235) (z0 241)) (tr (rE z0) (w0 270)) ∧ ∃ e : Nat, (e : Int) < rE z0 ∧ 0 < (tr (rE z0) (w0 270)) e))
theorem m_187n {d : Nat} {z0 w0 : mZ} {x y tx it mt tt ct : Option Nat} (a1 : Int) (hz : rz z0) (hw : rw_ w0) (ha1 : (-1) ≤ a1 ∧ a1 ≤ (-1)) (hrw : RW z0) (hft : FT (z0 225 26).toNat (vT (z0 235)) (tr (rE z0) (w0 270))) (hsm : sm (tr (rE z0) (w0 270)) 18 ≤ 18000) : wc (d + 5) 187 [.ref 225, .int (Int32.ofInt a1)] (mk z0 w0 (pq x y tx it mt tt ct)) (poV S_187n z0 w0 (E_187n a1 z0 w0 x y tx it mt tt ct)) := by
  have hst : st_ S_187n z0 w0 z0 w0 := st_rf hz hw
  have hz77 := rd_225_26 hz
  have hm26 := rd_225_26 hz
  have hrE : rE z0 = 3 * z0 225 26 / 2 := rfl
  have key : ∀ N : Nat, (∀ (x2 : Int) (z w : mZ), 0 ≤ x2 ∧ x2 ≤ 18000 → st_ S_187n z0 w0 z w → z 225 38 = z0 225 38 → z 225 39 = z0 225 39 → z 225 40 = z0 225 40 → ((∀ e : Nat, (e : Int) < rE z0 → z 243 e = (w0 270) e) ∧ ∀ e : Nat, (e : Int) ≤ rE z0 → z 244 e = sm (tr (rE z0) (w0 270)) e) → (z 225 36 = 0) → (∀ j : Nat, (j : Int) < x2 → z 245 j = 0) → 74 * (18000 - x2) + 26644502 < (N : Int) → wp_ (d + 4) 187 4 none (17, [(0, .ref 225), (2, .int (Int32.ofInt x2))], [], mk z w (pq x y tx it mt tt ct)) (poV S_187n z0 w0 (E_187n a1 z0 w0 x y tx it mt tt ct))) ∧ (∀ (x2 : Int) (z w : mZ), 0 ≤ x2 ∧ x2 ≤ 18 → st_ S_187n z0 w0 z w → ((∀ e : Nat, (e : Int) < rE z0 → z 243 e = (w0 270) e) ∧ ∀ e : Nat, (e : Int) ≤ rE z0 → z 244 e = sm (tr (rE z0) (w0 270)) e) → (CI (z0 225 26) (rE z0) (z0 235) (z0 241) (tr (rE z0) (w0 270)) (WP z) (z 225 36) x2 0) → (z 225 36 ≤ 18000 * x2) → 1332222 * (18 - x2) + 1332194 < (N : Int) → wp_ (d + 4) 187 4 none (45, [(0, .ref 225), (2, .int (Int32.ofInt x2))], [], mk z w (pq x y tx it mt tt ct)) (poV S_187n z0 w0 (E_187n a1 z0 w0 x y tx it mt tt ct))) ∧ (∀ (x2 x3 : Int) (z w : mZ), 0 ≤ x2 ∧ x2 ≤ 17 → 0 ≤ x3 ∧ x3 ≤ 18000 → st_ S_187n z0 w0 z w → ((∀ e : Nat, (e : Int) < rE z0 → z 243 e = (w0 270) e) ∧ ∀ e : Nat, (e : Int) ≤ rE z0 → z 244 e = sm (tr (rE z0) (w0 270)) e) → (CI (z0 225 26) (rE z0) (z0 235) (z0 241) (tr (rE z0) (w0 270)) (WP z) (z 225 36) x2 x3) → (z 225 36 ≤ 18000 * x2 + x3) → (x2 < rE z0) → 1332222 * (18 - x2) + 74 * (18000 - x3) + 40 < (N : Int) → wp_ (d + 4) 187 4 none (55, [(0, .ref 225), (2, .int (Int32.ofInt x2)), (3, .int (Int32.ofInt x3))], [], mk z w (pq x y tx it mt tt ct)) (poV S_187n z0 w0 (E_187n a1 z0 w0 x y tx it mt tt ct))) := by
    intro N
    induction N with
    | zero =>
      refine ⟨?_, ?_, ?_⟩
      · intro x2 z w
        intros; exfalso; omega
      · intro x2 z w
        intros; exfalso; omega
      · intro x2 x3 z w
        intros; exfalso; omega
    | succ N ih =>
      obtain ⟨ih0, ih1, ih2⟩ := ih
      refine ⟨?_, ?_, ?_⟩
      · intro x2 z w  hx2 hst un_z_225_38 un_z_225_39 un_z_225_40 as0 as1 as2 hM
        have hE18 : 0 ≤ rE z0 ∧ rE z0 ≤ 18 := by omega
        refine r_ld (pc' := 18) rfl rfl rfl rfl ?_
        refine r_ld (pc' := 19) rfl rfl rfl rfl ?_
        refine r_gr (b := 244) (pc' := 22) rfl rfl sh_225 rfl pp_225_34 ?_
        refine r_ld (pc' := 23) rfl rfl rfl rfl ?_
        have hb78 := rd_225_26 hz
        have hf79 : z 225 26 = z0 225 26 := (hst.2.2.1 _ _ (notS_c (by omega) (notS_c (by omega) (notS_c (by omega) (notS_c (by omega) (notS_c (by omega) (notS_c (by omega) (notS_c (by omega) (notS_c (by omega) notS_n)))))))))
        refine r_cVI (pc' := 26) rfl rfl rfl rfl rfl sh_225 (m_161 (d := d + 3)  hst.1 hst.2.1 ) (fun v80 z81 w82 p83 h84 hs85 hE86 => ?_)
        obtain ⟨rfl, rfl, rfl, hE86⟩ := hE86
        have hb23 : z 244 v80.toNat = sm (tr (rE z0) (w0 270)) 18 := by rw [show v80.toNat = (rE z0).toNat by omega, as0.2 _ (by omega), ← sm_tr (by omega) (by omega)]
        have hb88 := rd_244 hst.1 (i := v80.toNat) (by omega)
        refine r_ia (pc' := 27) rfl rfl sh_244 rfl (by omega) (by omega) rfl ?_
        refine r_ige (pc' := 30) rfl rfl ⟨by omega, by omega⟩ ⟨by omega, by omega⟩ (fun hc89 => ?_) (fun hc89 => ?_)
        · skip
          refine r_c0 (pc' := 44) rfl rfl ?_
          refine r_st (pc' := 45) (lv' := [(2, _), (0, _)]) rfl rfl rfl rfl ?_
          have hb90 := rd_225_36 hst.1
          exact w_lv (sub_c rfl (sub_c rfl sub_n)) rfl (ih1 0 z w ⟨by omega, by omega⟩ hst (by first | exact as0 | exact hlr | (simp only []; exact as0) | (simp only []; exact hlr)) (by first | exact CI_e as1 (by omega) (by rw [hx]; omega) | (rw [as1]; exact CI_0 (fun k hk q => q (as2 k (by omega))))) (by first | omega | assumption) (by omega))
        · skip
          refine r_ld (pc' := 31) rfl rfl rfl rfl ?_
          refine r_gr (b := 245) (pc' := 34) rfl rfl sh_225 rfl pp_225_35 ?_
          refine r_ld (pc' := 35) rfl rfl rfl rfl ?_
          refine r_c0 (pc' := 36) rfl rfl ?_
          refine r_zs (pc' := 37) rfl rfl sh_245 rfl (by omega) (by omega) (by omega) hst (inS_s (inS_s (inS_s (inS_s (inS_0 (by omega) (by omega) (by omega) (by omega)))))) (wr_245 ⟨by omega, by omega⟩) (fun z91 hq92 hs93 => ?_)
          have hqz := hq92
          refine r_inc (pc' := 40) (lv' := [(0, _)]) rfl rfl rfl rfl rfl ?_
          refine r_go rfl ?_
          have hb94 := rd_225_36 hst.1
          have hf95 : z91 225 36 = z 225 36 := ((congrFun (congrFun hq92 _) _).trans (mu_ne (by omega)))
          have hF96 : z91 243 = z 243 := ((congrFun hq92 _).trans (mu_fn (by omega)))
          have hF97 : z91 244 = z 244 := ((congrFun hq92 _).trans (mu_fn (by omega)))
          have hb98 := rd_225_38 hz
          have hb99 := rd_225_39 hz
          have hb100 := rd_225_40 hz
          exact w_lv (sub_c rfl (sub_c rfl sub_n)) rfl (ih0 (x2 + 1) z91 w ⟨by omega, by omega⟩ hs93 ((((congrFun (congrFun hq92 _) _).trans (mu_ne (by omega))).trans un_z_225_38)) ((((congrFun (congrFun hq92 _) _).trans (mu_ne (by omega))).trans un_z_225_39)) ((((congrFun (congrFun hq92 _) _).trans (mu_ne (by omega))).trans un_z_225_40)) (by first | exact as0 | exact hlr | (simp only [hF96, hF97, hf95]; exact as0) | (simp only [hF96, hF97, hf95]; exact hlr)) (by first | omega | assumption | (simp only [hF96, hF97, hf95]; assumption)) (by first | (intro j hj; exfalso; omega) | (intro j hj; rw [hqz]; by_cases c : j = x2.toNat; (subst c; exact mu_eq); (rw [mu_ne (by omega)]; exact as2 j (by omega)))) (by omega))
      · intro x2 z w  hx2 hst as0 as1 as2 hM
        refine r_ld (pc' := 46) rfl rfl rfl rfl ?_
        refine r_ld (pc' := 47) rfl rfl rfl rfl ?_
        have hb101 := rd_225_26 hz
        have hf102 : z 225 26 = z0 225 26 := (hst.2.2.1 _ _ (notS_c (by omega) (notS_c (by omega) (notS_c (by omega) (notS_c (by omega) (notS_c (by omega) (notS_c (by omega) (notS_c (by omega) (notS_c (by omega) notS_n)))))))))
        refine r_cVI (pc' := 50) rfl rfl rfl rfl rfl sh_225 (m_161 (d := d + 3)  hst.1 hst.2.1 ) (fun v103 z104 w105 p106 h107 hs108 hE109 => ?_)
        obtain ⟨rfl, rfl, rfl, hE109⟩ := hE109
        refine r_ige (pc' := 53) rfl rfl ⟨by omega, by omega⟩ ⟨by omega, by omega⟩ (fun hc111 => ?_) (fun hc111 => ?_)
        · skip
          have hb112 := rd_225_36 hst.1
          exact r_ret rfl (po_V hst ⟨rfl, (by intro h; rw [h] at as1; exact CI_end hrw as1 (by omega))⟩)
        · skip
          refine r_c0 (pc' := 54) rfl rfl ?_
          refine r_st (pc' := 55) (lv' := [(3, _), (0, _), (2, _)]) rfl rfl rfl rfl ?_
          have hb113 := rd_225_36 hst.1
          exact w_lv (sub_c rfl (sub_c rfl (sub_c rfl sub_n))) rfl (ih2 x2 0 z w ⟨by omega, by omega⟩ ⟨by omega, by omega⟩ hst (by first | exact as0 | exact hlr | (simp only []; exact as0) | (simp only []; exact hlr)) (by first | exact as1 | exact CI_p hft.1 (by omega) as1 (by omega) (by omega) (by omega) (by rw [hx]; omega) (by unfold WP; rw [← hx4]; omega) | exact CI_n (by omega) as1 (by omega) (by omega) (by omega) (by rw [hx]; omega) (by omega) hft.1 (fun p => PS_c (fun k q => by unfold WP at q ⊢; rw [show z 245 k = NOMARK 245 k from NOMARK] at q; exact q) (hri x2.toNat x3 (fun A _ => Iff.rfl) (PS_c (fun k q => by unfold WP at q ⊢; rw [gw k] at q; exact q) p)))) (by first | omega | assumption) (by first | omega | assumption) (by omega))
      · intro x2 x3 z w  hx2 hx3 hst as0 as1 as2 as3 hM
        have hx : (tr (rE z0) (w0 270)) x2.toNat = z 243 x2.toNat := by rw [tr_l (by omega), as0.1 x2.toNat (by omega)]
        have hx4 : z 244 x2.toNat = sm (tr (rE z0) (w0 270)) x2.toNat := as0.2 x2.toNat (by omega)
        have hci := as1.1
        refine r_ld (pc' := 56) rfl rfl rfl rfl ?_
        refine r_ld (pc' := 57) rfl rfl rfl rfl ?_
        refine r_gr (b := 243) (pc' := 60) rfl rfl sh_225 rfl pp_225_33 ?_
        refine r_ld (pc' := 61) rfl rfl rfl rfl ?_
        have hb114 := rd_243 hst.1 (i := x2.toNat) (by omega)
        refine r_ia (pc' := 62) rfl rfl sh_243 rfl (by omega) (by omega) rfl ?_
        refine r_ige (pc' := 65) rfl rfl ⟨by omega, by omega⟩ ⟨by omega, by omega⟩ (fun hc115 => ?_) (fun hc115 => ?_)
        · skip
          refine r_inc (pc' := 126) (lv' := [(0, _), (3, _)]) rfl rfl rfl rfl rfl ?_
          refine r_go rfl ?_
          have hb116 := rd_225_36 hst.1
          exact w_lv (sub_c rfl (sub_c rfl sub_n)) rfl (ih1 (x2 + 1) z w ⟨by omega, by omega⟩ hst (by first | exact as0 | exact hlr | (simp only []; exact as0) | (simp only []; exact hlr)) (by first | exact CI_e as1 (by omega) (by rw [hx]; omega) | (rw [as1]; exact CI_0 (fun k hk q => q (as2 k (by omega))))) (by first | omega | assumption) (by omega))
        · skip
          have hsb := sm_b hft.1 (e := x2.toNat) (i := x3) (by omega) (by omega) (by rw [hx]; omega)
          refine r_ld (pc' := 66) rfl rfl rfl rfl ?_
          refine r_gr (b := 245) (pc' := 69) rfl rfl sh_225 rfl pp_225_35 ?_
          refine r_ld (pc' := 70) rfl rfl rfl rfl ?_
          refine r_gr (b := 244) (pc' := 73) rfl rfl sh_225 rfl pp_225_34 ?_
          refine r_ld (pc' := 74) rfl rfl rfl rfl ?_
          have hb117 := rd_244 hst.1 (i := x2.toNat) (by omega)
          refine r_ia (pc' := 75) rfl rfl sh_244 rfl (by omega) (by omega) rfl ?_
          refine r_ld (pc' := 76) rfl rfl rfl rfl ?_
          refine r_add (pc' := 77) rfl rfl ?_
          have hb118 := rd_245 hst.1 (i := ((z 244 x2.toNat) + x3).toNat) (by omega)
          refine r_ba (pc' := 78) rfl rfl sh_245 (Or.inr rfl) rfl (by omega) (by omega) rfl ?_
          refine r_zeq (pc' := 81) rfl rfl ⟨by omega, by omega⟩ (fun hc119 => ?_) (fun hc119 => ?_)
          · skip
            refine r_ld (pc' := 85) rfl rfl rfl rfl ?_
            refine r_al (pc' := 86) rfl rfl rfl rfl ?_
            have hb120 := rd_225_36 hst.1
            refine r_gi (pc' := 89) rfl rfl sh_225 rfl rfl ?_
            refine r_c0 (pc' := 90) rfl rfl ?_
            refine r_add (pc' := 91) rfl rfl ?_
            refine w_hxi (fun v121 h122 h123 => ?_)
            refine r_pi (pc' := 94) rfl rfl sh_225 rfl rfl hst (inS_s (inS_s (inS_0 (by omega) (by omega) (by omega) (by omega)))) (wr_225_36 ⟨by omega, by omega⟩) (fun z124 hq125 hs126 => ?_)
            refine r_ld (pc' := 95) rfl rfl rfl rfl ?_
            refine r_al (pc' := 96) rfl rfl rfl rfl ?_
            have hb127 := rd_225_37 hst.1
            refine r_gi (pc' := 99) rfl rfl sh_225 rfl ((congrFun (congrFun hq125 _) _).trans (mu_ne (by omega))) ?_
            refine r_ld (pc' := 100) rfl rfl rfl rfl ?_
            refine r_ld (pc' := 101) rfl rfl rfl rfl ?_
            refine r_ld (pc' := 102) rfl rfl rfl rfl ?_
            have q235 : z124 235 = z0 235 := funext fun i => hs126.2.2.1 _ _ (notS_c (by omega) (notS_c (by omega) (notS_c (by omega) (notS_c (by omega) (notS_c (by omega) (notS_c (by omega) (notS_c (by omega) (notS_c (by omega) (notS_n)))))))))
            have q240 : z124 240 = z0 240 := funext fun i => hs126.2.2.1 _ _ (notS_c (by omega) (notS_c (by omega) (notS_c (by omega) (notS_c (by omega) (notS_c (by omega) (notS_c (by omega) (notS_c (by omega) (notS_c (by omega) (notS_n)))))))))
            have q241 : z124 241 = z0 241 := funext fun i => hs126.2.2.1 _ _ (notS_c (by omega) (notS_c (by omega) (notS_c (by omega) (notS_c (by omega) (notS_c (by omega) (notS_c (by omega) (notS_c (by omega) (notS_c (by omega) (notS_n)))))))))
            have q26 : z124 225 26 = z0 225 26 := hs126.2.2.1 _ _ (notS_c (by omega) (notS_c (by omega) (notS_c (by omega) (notS_c (by omega) (notS_c (by omega) (notS_c (by omega) (notS_c (by omega) (notS_c (by omega) (notS_n)))))))))
            have c243 : z124 243 = z 243 := funext fun i => ((congrFun (congrFun hq125 _) _).trans (mu_ne (by omega)))
            have c244 : z124 244 = z 244 := funext fun i => ((congrFun (congrFun hq125 _) _).trans (mu_ne (by omega)))
            have hr := RL_of q26 q235 hft hsm (fun e he => by rw [c243]; exact as0.1 e he) (fun e he => by rw [c244]; exact as0.2 e he)
            have gw : ∀ k, z124 245 k = z 245 k := fun k => ((congrFun (congrFun hq125 _) _).trans (mu_ne (by omega)))
            have hb128 := rd_225_26 hz
            have hf129 : z124 225 26 = z0 225 26 := (((congrFun (congrFun hq125 _) _).trans (mu_ne (by omega))).trans (hst.2.2.1 _ _ (notS_c (by omega) (notS_c (by omega) (notS_c (by omega) (notS_c (by omega) (notS_c (by omega) (notS_c (by omega) (notS_c (by omega) (notS_c (by omega) notS_n))))))))))
            have hF130 : z124 235 = z0 235 := (((congrFun hq125 _).trans (mu_fn (by omega))).trans (funext fun _ => hst.2.2.1 _ _ (notS_c (by omega) (notS_c (by omega) (notS_c (by omega) (notS_c (by omega) (notS_c (by omega) (notS_c (by omega) (notS_c (by omega) (notS_c (by omega) notS_n))))))))))
            have hF131 : z124 241 = z0 241 := (((congrFun hq125 _).trans (mu_fn (by omega))).trans (funext fun _ => hst.2.2.1 _ _ (notS_c (by omega) (notS_c (by omega) (notS_c (by omega) (notS_c (by omega) (notS_c (by omega) (notS_c (by omega) (notS_c (by omega) (notS_c (by omega) notS_n))))))))))
            refine r_cVI (pc' := 105) rfl rfl rfl rfl rfl sh_225 (m_188 (d := d) x2 x3 hs126.1 hs126.2.1 ⟨by omega, by omega⟩ ⟨by omega, by omega⟩ (by exact RW_f hs126 (notS_c (by omega) (notS_c (by omega) (notS_c (by omega) (notS_c (by omega) (notS_c (by omega) (notS_c (by omega) (notS_c (by omega) (notS_c (by omega) (notS_n))))))))) (fun i => (notS_c (by omega) (notS_c (by omega) (notS_c (by omega) (notS_c (by omega) (notS_c (by omega) (notS_c (by omega) (notS_c (by omega) (notS_c (by omega) (notS_n)))))))))) (fun i => (notS_c (by omega) (notS_c (by omega) (notS_c (by omega) (notS_c (by omega) (notS_c (by omega) (notS_c (by omega) (notS_c (by omega) (notS_c (by omega) (notS_n)))))))))) (fun i => (notS_c (by omega) (notS_c (by omega) (notS_c (by omega) (notS_c (by omega) (notS_c (by omega) (notS_c (by omega) (notS_c (by omega) (notS_c (by omega) (notS_n)))))))))) hrw) (by exact hr.1) (by show x2 < 3 * z124 225 26 / 2; rw [q26]; exact as3) (by rw [c243]; omega)) (fun v132 z133 w134 p135 h136 hs137 hE138 => ?_)
            have hs139 := st_tr hs126 hs137 (sub_B rfl)
            obtain ⟨rfl, hE138⟩ := hE138
            have hri := hE138.2.2
            unfold PSr at hri
            rw [q26, q235, q241, hr.2] at hri
            refine r_zeq (pc' := 108) rfl rfl ⟨by omega, by omega⟩ (fun hc140 => ?_) (fun hc140 => ?_)
            · skip
              refine r_c0 (pc' := 113) rfl rfl ?_
              refine r_add (pc' := 114) rfl rfl ?_
              refine r_pi (pc' := 117) rfl rfl sh_225 rfl rfl hs139 (inS_s (inS_s (inS_s (inS_0 (by omega) (by omega) (by omega) (by omega))))) (wr_225_37 ⟨by omega, by omega⟩) (fun z141 hq142 hs143 => ?_)
              refine r_inc (pc' := 120) (lv' := [(0, _), (2, _)]) rfl rfl rfl rfl rfl ?_
              refine r_go rfl ?_
              have hf144 : z141 225 36 = v121 := (((congrFun (congrFun hq142 _) _).trans (mu_ne (by omega))).trans ((hs137.2.2.1 _ _ (notS_c (by omega) (notS_c (by omega) (notS_c (by omega) (notS_c (by omega) notS_n))))).trans ((congrFun (congrFun hq125 _) _).trans mu_eq)))
              have hF145 : z141 243 = z 243 := (((congrFun hq142 _).trans (mu_fn (by omega))).trans ((funext fun _ => hs137.2.2.1 _ _ (notS_c (by omega) (notS_c (by omega) (notS_c (by omega) (notS_c (by omega) notS_n))))).trans ((congrFun hq125 _).trans (mu_fn (by omega)))))
              have hF146 : z141 244 = z 244 := (((congrFun hq142 _).trans (mu_fn (by omega))).trans ((funext fun _ => hs137.2.2.1 _ _ (notS_c (by omega) (notS_c (by omega) (notS_c (by omega) (notS_c (by omega) notS_n))))).trans ((congrFun hq125 _).trans (mu_fn (by omega)))))
              exact w_lv (sub_c rfl (sub_c rfl (sub_c rfl sub_n))) rfl (ih2 x2 (x3 + 1) z141 w134 ⟨by omega, by omega⟩ ⟨by omega, by omega⟩ hs143 (by first | exact as0 | exact hlr | (simp only [hF145, hF146, hf144]; exact as0) | (simp only [hF145, hF146, hf144]; exact hlr)) (by first | exact as1 | exact CI_p hft.1 (by omega) as1 (by omega) (by omega) (by omega) (by rw [hx]; omega) (by unfold WP; rw [← hx4]; omega) | exact CI_n (by omega) as1 (by omega) (by omega) (by omega) (by rw [hx]; omega) (by omega) hft.1 (fun p => PS_c (fun k q => by unfold WP at q ⊢; rw [show z141 245 k = z133 245 k from ((congrFun (congrFun hq142 _) _).trans (mu_ne (by omega)))] at q; exact q) (hri x2.toNat x3 (fun A _ => Iff.rfl) (PS_c (fun k q => by unfold WP at q ⊢; rw [gw k] at q; exact q) p)))) (by first | omega | assumption | (simp only [hF145, hF146, hf144]; assumption)) (by first | omega | assumption | (simp only [hF145, hF146, hf144]; assumption)) (by omega))
            · skip
              refine r_c0 (pc' := 109) rfl rfl ?_
              refine r_go rfl ?_
              refine r_add (pc' := 114) rfl rfl ?_
              refine w_hxi (fun v147 h148 h149 => ?_)
              refine r_pi (pc' := 117) rfl rfl sh_225 rfl rfl hs139 (inS_s (inS_s (inS_s (inS_0 (by omega) (by omega) (by omega) (by omega))))) (wr_225_37 ⟨by omega, by omega⟩) (fun z150 hq151 hs152 => ?_)
              refine r_inc (pc' := 120) (lv' := [(0, _), (2, _)]) rfl rfl rfl rfl rfl ?_
              refine r_go rfl ?_
              have hf153 : z150 225 36 = v121 := (((congrFun (congrFun hq151 _) _).trans (mu_ne (by omega))).trans ((hs137.2.2.1 _ _ (notS_c (by omega) (notS_c (by omega) (notS_c (by omega) (notS_c (by omega) notS_n))))).trans ((congrFun (congrFun hq125 _) _).trans mu_eq)))
              have hF154 : z150 243 = z 243 := (((congrFun hq151 _).trans (mu_fn (by omega))).trans ((funext fun _ => hs137.2.2.1 _ _ (notS_c (by omega) (notS_c (by omega) (notS_c (by omega) (notS_c (by omega) notS_n))))).trans ((congrFun hq125 _).trans (mu_fn (by omega)))))
              have hF155 : z150 244 = z 244 := (((congrFun hq151 _).trans (mu_fn (by omega))).trans ((funext fun _ => hs137.2.2.1 _ _ (notS_c (by omega) (notS_c (by omega) (notS_c (by omega) (notS_c (by omega) notS_n))))).trans ((congrFun hq125 _).trans (mu_fn (by omega)))))
              exact w_lv (sub_c rfl (sub_c rfl (sub_c rfl sub_n))) rfl (ih2 x2 (x3 + 1) z150 w134 ⟨by omega, by omega⟩ ⟨by omega, by omega⟩ hs152 (by first | exact as0 | exact hlr | (simp only [hF154, hF155, hf153]; exact as0) | (simp only [hF154, hF155, hf153]; exact hlr)) (by first | exact as1 | exact CI_p hft.1 (by omega) as1 (by omega) (by omega) (by omega) (by rw [hx]; omega) (by unfold WP; rw [← hx4]; omega) | exact CI_n (by omega) as1 (by omega) (by omega) (by omega) (by rw [hx]; omega) (by omega) hft.1 (fun p => PS_c (fun k q => by unfold WP at q ⊢; rw [show z150 245 k = z133 245 k from ((congrFun (congrFun hq151 _) _).trans (mu_ne (by omega)))] at q; exact q) (hri x2.toNat x3 (fun A _ => Iff.rfl) (PS_c (fun k q => by unfold WP at q ⊢; rw [gw k] at q; exact q) p)))) (by first | omega | assumption | (simp only [hF154, hF155, hf153]; assumption)) (by first | omega | assumption | (simp only [hF154, hF155, hf153]; assumption)) (by omega))
          · skip
            refine r_go rfl ?_
            refine r_inc (pc' := 120) (lv' := [(0, _), (2, _)]) rfl rfl rfl rfl rfl ?_
            refine r_go rfl ?_
            have hb156 := rd_225_36 hst.1
            exact w_lv (sub_c rfl (sub_c rfl (sub_c rfl sub_n))) rfl (ih2 x2 (x3 + 1) z w ⟨by omega, by omega⟩ ⟨by omega, by omega⟩ hst (by first | exact as0 | exact hlr | (simp only []; exact as0) | (simp only []; exact hlr)) (by first | exact as1 | exact CI_p hft.1 (by omega) as1 (by omega) (by omega) (by omega) (by rw [hx]; omega) (by unfold WP; rw [← hx4]; omega) | exact CI_n (by omega) as1 (by omega) (by omega) (by omega) (by rw [hx]; omega) (by omega) hft.1 (fun p => PS_c (fun k q => by unfold WP at q ⊢; rw [show z 245 k = NOMARK 245 k from NOMARK] at q; exact q) (hri x2.toNat x3 (fun A _ => Iff.rfl) (PS_c (fun k q => by unfold WP at q ⊢; rw [gw k] at q; exact q) p)))) (by first | omega | assumption) (by first | omega | assumption) (by omega))
  refine w_m rfl rfl ?_
  refine r_ld (pc' := 1) rfl rfl rfl rfl ?_
  refine r_ld (pc' := 2) rfl rfl rfl rfl ?_
  refine r_cVV (pc' := 5) rfl rfl rfl rfl rfl sh_225 (m_180n (d := d + 2) a1 hst.1 hst.2.1 ⟨by omega, by omega⟩ (by exact hsm)) (fun z158 w159 p160 hs162 hE163 => ?_)
  have hs164 := st_tr hst hs162 (sub_B rfl)
  obtain ⟨rfl, hE163⟩ := hE163
  have hlr := hE163
  refine r_ld (pc' := 6) rfl rfl rfl rfl ?_
  refine r_c0 (pc' := 7) rfl rfl ?_
  refine r_pi (pc' := 10) rfl rfl sh_225 rfl rfl hs164 (inS_s (inS_s (inS_0 (by omega) (by omega) (by omega) (by omega)))) (wr_225_36 ⟨by omega, by omega⟩) (fun z165 hq166 hs167 => ?_)
  refine r_ld (pc' := 11) rfl rfl rfl rfl ?_
  refine r_c0 (pc' := 12) rfl rfl ?_
  refine r_pi (pc' := 15) rfl rfl sh_225 rfl rfl hs167 (inS_s (inS_s (inS_s (inS_0 (by omega) (by omega) (by omega) (by omega))))) (wr_225_37 ⟨by omega, by omega⟩) (fun z168 hq169 hs170 => ?_)
  refine r_c0 (pc' := 16) rfl rfl ?_
  refine r_st (pc' := 17) (lv' := [(2, _), (0, _), (1, _)]) rfl rfl rfl rfl ?_
  have hf171 : z168 225 36 = 0 := (((congrFun (congrFun hq169 _) _).trans (mu_ne (by omega))).trans ((congrFun (congrFun hq166 _) _).trans mu_eq))
  have hF172 : z168 243 = z158 243 := (((congrFun hq169 _).trans (mu_fn (by omega))).trans ((congrFun hq166 _).trans (mu_fn (by omega))))
  have hF173 : z168 244 = z158 244 := (((congrFun hq169 _).trans (mu_fn (by omega))).trans ((congrFun hq166 _).trans (mu_fn (by omega))))
  have hb174 := rd_225_38 hz
  have hb175 := rd_225_39 hz
  have hb176 := rd_225_40 hz
  exact w_lv (sub_c rfl (sub_c rfl sub_n)) rfl ((key ((74 * (18000 - 0) + 26644502 : Int).toNat + 1)).1 0 z168 w159 ⟨by omega, by omega⟩ hs170 ((((congrFun (congrFun hq169 _) _).trans (mu_ne (by omega))).trans (((congrFun (congrFun hq166 _) _).trans (mu_ne (by omega))).trans (hs162.2.2.1 _ _ (notS_c (by omega) (notS_c (by omega) notS_n)))))) ((((congrFun (congrFun hq169 _) _).trans (mu_ne (by omega))).trans (((congrFun (congrFun hq166 _) _).trans (mu_ne (by omega))).trans (hs162.2.2.1 _ _ (notS_c (by omega) (notS_c (by omega) notS_n)))))) ((((congrFun (congrFun hq169 _) _).trans (mu_ne (by omega))).trans (((congrFun (congrFun hq166 _) _).trans (mu_ne (by omega))).trans (hs162.2.2.1 _ _ (notS_c (by omega) (notS_c (by omega) notS_n)))))) (by first | exact as0 | exact hlr | (simp only [hF172, hF173, hf171]; exact as0) | (simp only [hF172, hF173, hf171]; exact hlr)) (by first | omega | assumption | (simp only [hF172, hF173, hf171]; assumption)) (by first | (intro j hj; exfalso; omega) | (intro j hj; rw [hqz]; by_cases c : j = x2.toNat; (subst c; exact mu_eq); (rw [mu_ne (by omega)]; exact as2 j (by omega)))) (by omega))
/-- LoopGroundModel isSingle -/
abbrev S_190t  : mS := [(244, 244, 0, 18), (243, 243, 0, 17), (225, 225, 36, 36), (225, 225, 37, 37), (245, 245, 0, 17999), (225, 225, 38, 38), (225, 225, 39, 39), (225, 225, 40, 40)]
abbrev E_190t (a1 : Int) (z0 w0 : mZ) (x y tx it mt tt ct : Option Nat) : Int → mZ → mZ → mP → Prop := fun v z w p => p = (pq x y tx it mt tt ct) ∧ 0 ≤ v ∧ v ≤ 1 ∧ ((v = 1 → CN (z0 225 26).toNat (vT (z0 235)) (oF (z0 235) (z0 241)) (tr (rE z0) (lnR z0 a1.toNat)) ∧ ∃ e : Nat, (e : Int) < rE z0 ∧ 0 < (tr (rE z0) (lnR z0 a1.toNat)) e))
theorem m_190t {d : Nat} {z0 w0 : mZ} {x y tx it mt tt ct : Option Nat} (a1 : Int) (hz : rz z0) (hw : rw_ w0) (ha1 : 0 ≤ a1 ∧ a1 ≤ 7) (hrw : RW z0) (hft : FT (z0 225 26).toNat (vT (z0 235)) (tr (rE z0) (lnR z0 a1.toNat))) : wc (d + 6) 190 [.ref 225, .int (Int32.ofInt a1)] (mk z0 w0 (pq x y tx it mt tt ct)) (poI S_190t z0 w0 (E_190t a1 z0 w0 x y tx it mt tt ct)) := by
  have hst : st_ S_190t z0 w0 z0 w0 := st_rf hz hw
  have hz31 := rd_225_26 hz
  have hm26 := rd_225_26 hz
  have hrE : rE z0 = 3 * z0 225 26 / 2 := rfl
  refine w_m rfl rfl ?_
  refine r_ld (pc' := 1) rfl rfl rfl rfl ?_
  refine r_ld (pc' := 2) rfl rfl rfl rfl ?_
  refine r_cVL (pc' := 5) rfl rfl rfl rfl rfl sh_225 (m_181t (d := d + 3) a1 hst.1 hst.2.1 ⟨by omega, by omega⟩) (fun v32 z33 w34 p35 h36 hs37 hE38 => ?_)
  obtain ⟨rfl, rfl, rfl, hE38⟩ := hE38
  have hsv := hE38.2.2
  refine r_cSI (pc' := 8) rfl rfl rfl rfl rfl (m_189v (d := d + 4) v32 hst.1 hst.2.1 ⟨by omega, by omega⟩) (fun v40 z41 w42 p43 h44 hs45 hE46 => ?_)
  obtain ⟨rfl, rfl, rfl, hE46⟩ := hE46
  have hiv := hE46.2.2
  refine r_zne (pc' := 11) rfl rfl ⟨by omega, by omega⟩ (fun hc48 => ?_) (fun hc48 => ?_)
  · skip
    refine r_ld (pc' := 14) rfl rfl rfl rfl ?_
    refine r_ld (pc' := 15) rfl rfl rfl rfl ?_
    have hb49 := rd_225_26 hz
    refine r_cVV (pc' := 18) rfl rfl rfl rfl rfl sh_225 (m_187t (d := d) a1 hst.1 hst.2.1 ⟨by omega, by omega⟩ (by exact hrw) (by exact hft) (by rw [← hsv]; exact hiv.1 (by omega))) (fun z51 w52 p53 hs55 hE56 => ?_)
    have hs57 := st_tr hst hs55 (sub_B rfl)
    obtain ⟨rfl, hE56⟩ := hE56
    have hcn := hE56
    refine r_ld (pc' := 19) rfl rfl rfl rfl ?_
    have hb58 := rd_225_36 hs57.1
    refine r_gi (pc' := 22) rfl rfl sh_225 rfl rfl ?_
    refine r_c0 (pc' := 23) rfl rfl ?_
    refine r_ine (pc' := 26) rfl rfl ⟨by omega, by omega⟩ ⟨by decide, by decide⟩ (fun hc59 => ?_) (fun hc59 => ?_)
    · skip
      refine r_c0 (pc' := 38) rfl rfl ?_
      exact r_rz rfl (by omega) (po_I hs57 ⟨by decide, by decide⟩ ⟨rfl, by omega, by omega, (by first | (intro h; exfalso; omega) | (intro _; exact hcn (by omega)))⟩)
    · skip
      refine r_ld (pc' := 27) rfl rfl rfl rfl ?_
      have hb60 := rd_225_37 hs57.1
      refine r_gi (pc' := 30) rfl rfl sh_225 rfl rfl ?_
      refine r_zne (pc' := 33) rfl rfl ⟨by omega, by omega⟩ (fun hc61 => ?_) (fun hc61 => ?_)
      · skip
        refine r_c0 (pc' := 38) rfl rfl ?_
        exact r_rz rfl (by omega) (po_I hs57 ⟨by decide, by decide⟩ ⟨rfl, by omega, by omega, (by first | (intro h; exfalso; omega) | (intro _; exact hcn (by omega)))⟩)
      · skip
        refine r_c0 (pc' := 34) rfl rfl ?_
        refine r_go rfl ?_
        exact r_rz rfl (by omega) (po_I hs57 ⟨by decide, by decide⟩ ⟨rfl, by omega, by omega, (by first | (intro h; exfalso; omega) | (intro _; exact hcn (by omega)))⟩)
  · skip
    refine r_c0 (pc' := 12) rfl rfl ?_
    exact r_rz rfl (by omega) (po_I hst ⟨by decide, by decide⟩ ⟨rfl, by omega, by omega, (by first | (intro h; exfalso; omega) | (intro _; exact hcn (by omega)))⟩)
/-- LoopGroundModel isSingle -/
abbrev S_190n  : mS := [(244, 244, 0, 18), (243, 243, 0, 17), (225, 225, 36, 36), (225, 225, 37, 37), (245, 245, 0, 17999), (225, 225, 38, 38), (225, 225, 39, 39), (225, 225, 40, 40)]
abbrev E_190n (a1 : Int) (z0 w0 : mZ) (x y tx it mt tt ct : Option Nat) : Int → mZ → mZ → mP → Prop := fun v z w p => p = (pq x y tx it mt tt ct) ∧ 0 ≤ v ∧ v ≤ 1 ∧ ((v = 1 → CN (z0 225 26).toNat (vT (z0 235)) (oF (z0 235) (z0 241)) (tr (rE z0) (w0 270)) ∧ ∃ e : Nat, (e : Int) < rE z0 ∧ 0 < (tr (rE z0) (w0 270)) e))
theorem m_190n {d : Nat} {z0 w0 : mZ} {x y tx it mt tt ct : Option Nat} (a1 : Int) (hz : rz z0) (hw : rw_ w0) (ha1 : (-1) ≤ a1 ∧ a1 ≤ (-1)) (hrw : RW z0) (hft : FT (z0 225 26).toNat (vT (z0 235)) (tr (rE z0) (w0 270))) : wc (d + 6) 190 [.ref 225, .int (Int32.ofInt a1)] (mk z0 w0 (pq x y tx it mt tt ct)) (poI S_190n z0 w0 (E_190n a1 z0 w0 x y tx it mt tt ct)) := by
  have hst : st_ S_190n z0 w0 z0 w0 := st_rf hz hw
  have hz31 := rd_225_26 hz
  have hm26 := rd_225_26 hz
  have hrE : rE z0 = 3 * z0 225 26 / 2 := rfl
  refine w_m rfl rfl ?_
  refine r_ld (pc' := 1) rfl rfl rfl rfl ?_
  refine r_ld (pc' := 2) rfl rfl rfl rfl ?_
  refine r_cVL (pc' := 5) rfl rfl rfl rfl rfl sh_225 (m_181n (d := d + 3) a1 hst.1 hst.2.1 ⟨by omega, by omega⟩) (fun v32 z33 w34 p35 h36 hs37 hE38 => ?_)
  obtain ⟨rfl, rfl, rfl, hE38⟩ := hE38
  have hsv := hE38.2.2
  refine r_cSI (pc' := 8) rfl rfl rfl rfl rfl (m_189v (d := d + 4) v32 hst.1 hst.2.1 ⟨by omega, by omega⟩) (fun v40 z41 w42 p43 h44 hs45 hE46 => ?_)
  obtain ⟨rfl, rfl, rfl, hE46⟩ := hE46
  have hiv := hE46.2.2
  refine r_zne (pc' := 11) rfl rfl ⟨by omega, by omega⟩ (fun hc48 => ?_) (fun hc48 => ?_)
  · skip
    refine r_ld (pc' := 14) rfl rfl rfl rfl ?_
    refine r_ld (pc' := 15) rfl rfl rfl rfl ?_
    have hb49 := rd_225_26 hz
    refine r_cVV (pc' := 18) rfl rfl rfl rfl rfl sh_225 (m_187n (d := d) a1 hst.1 hst.2.1 ⟨by omega, by omega⟩ (by exact hrw) (by exact hft) (by rw [← hsv]; exact hiv.1 (by omega))) (fun z51 w52 p53 hs55 hE56 => ?_)
    have hs57 := st_tr hst hs55 (sub_B rfl)
    obtain ⟨rfl, hE56⟩ := hE56
    have hcn := hE56
    refine r_ld (pc' := 19) rfl rfl rfl rfl ?_
    have hb58 := rd_225_36 hs57.1
    refine r_gi (pc' := 22) rfl rfl sh_225 rfl rfl ?_
    refine r_c0 (pc' := 23) rfl rfl ?_
    refine r_ine (pc' := 26) rfl rfl ⟨by omega, by omega⟩ ⟨by decide, by decide⟩ (fun hc59 => ?_) (fun hc59 => ?_)
    · skip
      refine r_c0 (pc' := 38) rfl rfl ?_
      exact r_rz rfl (by omega) (po_I hs57 ⟨by decide, by decide⟩ ⟨rfl, by omega, by omega, (by first | (intro h; exfalso; omega) | (intro _; exact hcn (by omega)))⟩)
    · skip
      refine r_ld (pc' := 27) rfl rfl rfl rfl ?_
      have hb60 := rd_225_37 hs57.1
      refine r_gi (pc' := 30) rfl rfl sh_225 rfl rfl ?_
      refine r_zne (pc' := 33) rfl rfl ⟨by omega, by omega⟩ (fun hc61 => ?_) (fun hc61 => ?_)
      · skip
        refine r_c0 (pc' := 38) rfl rfl ?_
        exact r_rz rfl (by omega) (po_I hs57 ⟨by decide, by decide⟩ ⟨rfl, by omega, by omega, (by first | (intro h; exfalso; omega) | (intro _; exact hcn (by omega)))⟩)
      · skip
        refine r_c0 (pc' := 34) rfl rfl ?_
        refine r_go rfl ?_
        exact r_rz rfl (by omega) (po_I hs57 ⟨by decide, by decide⟩ ⟨rfl, by omega, by omega, (by first | (intro h; exfalso; omega) | (intro _; exact hcn (by omega)))⟩)
  · skip
    refine r_c0 (pc' := 12) rfl rfl ?_
    exact r_rz rfl (by omega) (po_I hst ⟨by decide, by decide⟩ ⟨rfl, by omega, by omega, (by first | (intro h; exfalso; omega) | (intro _; exact hcn (by omega)))⟩)
