/-! methods, printed by wip/tools/vcg.py -/
/-- LoopGroundModel begin -/
abbrev S_212t  : mS := [(225, 225, 58, 58), (225, 225, 59, 59), (257, 257, 0, 17)]
abbrev E_212t (a1 : Int) (z0 w0 : mZ) (x y tx it mt tt ct : Option Nat) : mZ → mZ → mP → Prop := fun z w p => p = (pq x y tx it mt tt ct) ∧ ((∀ j : Nat, j < 18 → w 257 j = tr (rE z0) (lnR z0 a1.toNat) j) ∧ z 225 58 = 0 ∧ z 225 59 = 0)
theorem m_212t {d : Nat} {z0 w0 : mZ} {x y tx it mt tt ct : Option Nat} (a1 : Int) (hz : rz z0) (hw : rw_ w0) (ha1 : 0 ≤ a1 ∧ a1 ≤ 7) : wc (d + 2) 212 [.ref 225, .int (Int32.ofInt a1)] (mk z0 w0 (pq x y tx it mt tt ct)) (poV S_212t z0 w0 (E_212t a1 z0 w0 x y tx it mt tt ct)) := by
  have hst : st_ S_212t z0 w0 z0 w0 := st_rf hz hw
  have hm26 := rd_225_26 hz
  have hrE : rE z0 = 3 * z0 225 26 / 2 := rfl
  have key : ∀ N : Nat, (∀ (x2 : Int) (z w : mZ), 0 ≤ x2 ∧ x2 ≤ 18 → st_ S_212t z0 w0 z w → z 225 58 = z0 225 58 → z 225 59 = z0 225 59 → (∀ j : Nat, (j : Int) < x2 → w 257 j = tr (rE z0) (lnR z0 a1.toNat) j) → 40 * (18 - x2) + 37 < (N : Int) → wp_ (d + 1) 212 3 none (2, [(0, .ref 225), (1, .int (Int32.ofInt a1)), (2, .int (Int32.ofInt x2))], [], mk z w (pq x y tx it mt tt ct)) (poV S_212t z0 w0 (E_212t a1 z0 w0 x y tx it mt tt ct))) := by
    intro N
    induction N with
    | zero =>
      intro x2 z w
      intros; exfalso; omega
    | succ N ih =>
      have ih0 := ih; clear ih
      intro x2 z w  hx2 hst un_z_225_58 un_z_225_59 as1 hM
      refine r_ld (pc' := 3) rfl rfl rfl rfl ?_
      refine r_cb (pc' := 5) rfl (by decide) rfl ?_
      refine r_ige (pc' := 8) rfl rfl ⟨by omega, by omega⟩ ⟨by decide, by decide⟩ (fun hc29 => ?_) (fun hc29 => ?_)
      · skip
        refine r_ld (pc' := 58) rfl rfl rfl rfl ?_
        refine r_c0 (pc' := 59) rfl rfl ?_
        refine r_pi (pc' := 62) rfl rfl sh_225 rfl (fit_b (by omega)) hst (inS_0 (by omega) (by omega) (by omega) (by omega)) (wr_225_58 ⟨by omega, by omega⟩) (fun z30 hq31 hs32 => ?_)
        refine r_ld (pc' := 63) rfl rfl rfl rfl ?_
        refine r_c0 (pc' := 64) rfl rfl ?_
        refine r_pi (pc' := 67) rfl rfl sh_225 rfl (fit_b (by omega)) hs32 (inS_s (inS_0 (by omega) (by omega) (by omega) (by omega))) (wr_225_59 ⟨by omega, by omega⟩) (fun z33 hq34 hs35 => ?_)
        have hf36 : z33 225 58 = 0 := (((congrFun (congrFun hq34 _) _).trans (mu_ne (by omega))).trans ((congrFun (congrFun hq31 _) _).trans mu_eq))
        have hf37 : z33 225 59 = 0 := ((congrFun (congrFun hq34 _) _).trans mu_eq)
        exact r_ret rfl (po_V hs35 ⟨rfl, (by exact ⟨fun j hj => as1 j (by omega), by omega, by omega⟩)⟩)
      · skip
        have hge : z0 236 (18 * a1 + x2).toNat = lnR z0 a1.toNat x2.toNat := by show _ = z0 236 (18 * a1.toNat + x2.toNat); rw [show (18 * a1 + x2).toNat = 18 * a1.toNat + x2.toNat by omega]
        refine r_ld (pc' := 9) rfl rfl rfl rfl ?_
        refine r_gr (b := 257) (pc' := 12) rfl rfl sh_225 rfl pp_225_55 ?_
        refine r_ld (pc' := 13) rfl rfl rfl rfl ?_
        refine r_ld (pc' := 14) rfl rfl rfl rfl ?_
        refine r_ld (pc' := 15) rfl rfl rfl rfl ?_
        have hb38 := rd_225_26 hz
        have hf39 : z 225 26 = z0 225 26 := (hst.2.2.1 _ _ (notS_c (by omega) (notS_c (by omega) (notS_c (by omega) notS_n))))
        refine r_cVI (pc' := 18) rfl rfl rfl rfl rfl sh_225 (m_161 (d := d)  hst.1 hst.2.1 ) (fun v40 z41 w42 p43 h44 hs45 hE46 => ?_)
        obtain ⟨rfl, rfl, rfl, hE46⟩ := hE46
        refine r_ilt (pc' := 21) rfl rfl ⟨by omega, by omega⟩ ⟨by omega, by omega⟩ (fun hc48 => ?_) (fun hc48 => ?_)
        · skip
          refine r_ld (pc' := 26) rfl rfl rfl rfl ?_
          refine r_zge (pc' := 29) rfl rfl ⟨by omega, by omega⟩ (fun hc49 => ?_) (fun hc49 => ?_)
          · skip
            refine r_ld (pc' := 39) rfl rfl rfl rfl ?_
            refine r_gr (b := 236) (pc' := 42) rfl rfl sh_225 rfl pp_225_19 ?_
            refine r_cb (pc' := 44) rfl (by decide) rfl ?_
            refine r_ld (pc' := 45) rfl rfl rfl rfl ?_
            refine r_mul (pc' := 46) rfl rfl ?_
            refine r_ld (pc' := 47) rfl rfl rfl rfl ?_
            refine r_add (pc' := 48) rfl rfl ?_
            have hb50 := rd_236 hz (i := ((18 * a1) + x2).toNat) (by omega)
            refine r_ia (pc' := 49) rfl rfl sh_236 rfl (by omega) (by omega) (hst.2.2.1 _ _ (notS_c (by omega) (notS_c (by omega) (notS_c (by omega) notS_n)))) ?_
            refine r_i2l (pc' := 50) rfl rfl ⟨by omega, by omega⟩ ?_
            refine r_ls (pc' := 51) rfl rfl sh_257 rfl (by omega) (by omega) hst (inS_s (inS_s (inS_0 (by omega) (by omega) (by omega) (by omega)))) (wr_257 ⟨by omega, by omega⟩) (fun w51 hq52 hs53 => ?_)
            have hqw := hq52
            refine r_inc (pc' := 54) (lv' := [(0, _), (1, _)]) rfl rfl rfl rfl rfl ?_
            refine r_go rfl ?_
            have hb54 := rd_225_58 hz
            have hb55 := rd_225_59 hz
            exact w_lv (sub_c rfl (sub_c rfl (sub_c rfl sub_n))) rfl (ih0 (x2 + 1) z w51 ⟨by omega, by omega⟩ hs53 (un_z_225_58) (un_z_225_59) (by first | (intro j hj; exfalso; omega) | (intro j hj; rw [hqw]; by_cases c : j = x2.toNat; (subst c; rw [mu_eq]; first | (rw [tr_g (by omega)]) | (rw [tr_l (by omega)]; omega) | (rw [tr_l (by omega)]; exact hge) | (rw [tr_l (by omega)])); (rw [mu_ne (by omega)]; exact as1 j (by omega)))) (by omega))
          · exfalso; omega
        · skip
          refine r_lc0 (pc' := 22) rfl rfl ?_
          refine r_go rfl ?_
          refine r_ls (pc' := 51) rfl rfl sh_257 rfl (by omega) (by omega) hst (inS_s (inS_s (inS_0 (by omega) (by omega) (by omega) (by omega)))) (wr_257 ⟨by omega, by omega⟩) (fun w56 hq57 hs58 => ?_)
          have hqw := hq57
          refine r_inc (pc' := 54) (lv' := [(0, _), (1, _)]) rfl rfl rfl rfl rfl ?_
          refine r_go rfl ?_
          have hb59 := rd_225_58 hz
          have hb60 := rd_225_59 hz
          exact w_lv (sub_c rfl (sub_c rfl (sub_c rfl sub_n))) rfl (ih0 (x2 + 1) z w56 ⟨by omega, by omega⟩ hs58 (un_z_225_58) (un_z_225_59) (by first | (intro j hj; exfalso; omega) | (intro j hj; rw [hqw]; by_cases c : j = x2.toNat; (subst c; rw [mu_eq]; first | (rw [tr_g (by omega)]) | (rw [tr_l (by omega)]; omega) | (rw [tr_l (by omega)]; exact hge) | (rw [tr_l (by omega)])); (rw [mu_ne (by omega)]; exact as1 j (by omega)))) (by omega))
  refine w_m rfl rfl ?_
  refine r_c0 (pc' := 1) rfl rfl ?_
  refine r_st (pc' := 2) (lv' := [(2, _), (0, _), (1, _)]) rfl rfl rfl rfl ?_
  have hb61 := rd_225_58 hz
  have hb62 := rd_225_59 hz
  exact w_lv (sub_c rfl (sub_c rfl (sub_c rfl sub_n))) rfl ((key ((40 * (18 - 0) + 37 : Int).toNat + 1)) 0 z0 w0 ⟨by omega, by omega⟩ hst (rfl) (rfl) (by first | (intro j hj; exfalso; omega) | (intro j hj; rw [hqw]; by_cases c : j = x2.toNat; (subst c; rw [mu_eq]; first | (rw [tr_g (by omega)]) | (rw [tr_l (by omega)]; omega) | (rw [tr_l (by omega)]; exact hge) | (rw [tr_l (by omega)])); (rw [mu_ne (by omega)]; exact as1 j (by omega)))) (by omega))
/-- LoopGroundModel begin -/
abbrev S_212n  : mS := [(225, 225, 58, 58), (225, 225, 59, 59), (257, 257, 0, 17)]
abbrev E_212n (a1 : Int) (z0 w0 : mZ) (x y tx it mt tt ct : Option Nat) : mZ → mZ → mP → Prop := fun z w p => p = (pq x y tx it mt tt ct) ∧ ((∀ j : Nat, j < 18 → w 257 j = tr (rE z0) (w0 270) j) ∧ z 225 58 = 0 ∧ z 225 59 = 0)
theorem m_212n {d : Nat} {z0 w0 : mZ} {x y tx it mt tt ct : Option Nat} (a1 : Int) (hz : rz z0) (hw : rw_ w0) (ha1 : (-1) ≤ a1 ∧ a1 ≤ (-1)) : wc (d + 2) 212 [.ref 225, .int (Int32.ofInt a1)] (mk z0 w0 (pq x y tx it mt tt ct)) (poV S_212n z0 w0 (E_212n a1 z0 w0 x y tx it mt tt ct)) := by
  have hst : st_ S_212n z0 w0 z0 w0 := st_rf hz hw
  have hm26 := rd_225_26 hz
  have hrE : rE z0 = 3 * z0 225 26 / 2 := rfl
  have key : ∀ N : Nat, (∀ (x2 : Int) (z w : mZ), 0 ≤ x2 ∧ x2 ≤ 18 → st_ S_212n z0 w0 z w → z 225 58 = z0 225 58 → z 225 59 = z0 225 59 → (∀ j : Nat, (j : Int) < x2 → w 257 j = tr (rE z0) (w0 270) j) → 40 * (18 - x2) + 37 < (N : Int) → wp_ (d + 1) 212 3 none (2, [(0, .ref 225), (1, .int (Int32.ofInt a1)), (2, .int (Int32.ofInt x2))], [], mk z w (pq x y tx it mt tt ct)) (poV S_212n z0 w0 (E_212n a1 z0 w0 x y tx it mt tt ct))) := by
    intro N
    induction N with
    | zero =>
      intro x2 z w
      intros; exfalso; omega
    | succ N ih =>
      have ih0 := ih; clear ih
      intro x2 z w  hx2 hst un_z_225_58 un_z_225_59 as1 hM
      refine r_ld (pc' := 3) rfl rfl rfl rfl ?_
      refine r_cb (pc' := 5) rfl (by decide) rfl ?_
      refine r_ige (pc' := 8) rfl rfl ⟨by omega, by omega⟩ ⟨by decide, by decide⟩ (fun hc29 => ?_) (fun hc29 => ?_)
      · skip
        refine r_ld (pc' := 58) rfl rfl rfl rfl ?_
        refine r_c0 (pc' := 59) rfl rfl ?_
        refine r_pi (pc' := 62) rfl rfl sh_225 rfl (fit_b (by omega)) hst (inS_0 (by omega) (by omega) (by omega) (by omega)) (wr_225_58 ⟨by omega, by omega⟩) (fun z30 hq31 hs32 => ?_)
        refine r_ld (pc' := 63) rfl rfl rfl rfl ?_
        refine r_c0 (pc' := 64) rfl rfl ?_
        refine r_pi (pc' := 67) rfl rfl sh_225 rfl (fit_b (by omega)) hs32 (inS_s (inS_0 (by omega) (by omega) (by omega) (by omega))) (wr_225_59 ⟨by omega, by omega⟩) (fun z33 hq34 hs35 => ?_)
        have hf36 : z33 225 58 = 0 := (((congrFun (congrFun hq34 _) _).trans (mu_ne (by omega))).trans ((congrFun (congrFun hq31 _) _).trans mu_eq))
        have hf37 : z33 225 59 = 0 := ((congrFun (congrFun hq34 _) _).trans mu_eq)
        exact r_ret rfl (po_V hs35 ⟨rfl, (by exact ⟨fun j hj => as1 j (by omega), by omega, by omega⟩)⟩)
      · skip
        have hge : w 270 x2.toNat = w0 270 x2.toNat := hst.2.2.2 _ _ (notS_c (by omega) (notS_c (by omega) (notS_c (by omega) (notS_n))))
        refine r_ld (pc' := 9) rfl rfl rfl rfl ?_
        refine r_gr (b := 257) (pc' := 12) rfl rfl sh_225 rfl pp_225_55 ?_
        refine r_ld (pc' := 13) rfl rfl rfl rfl ?_
        refine r_ld (pc' := 14) rfl rfl rfl rfl ?_
        refine r_ld (pc' := 15) rfl rfl rfl rfl ?_
        have hb38 := rd_225_26 hz
        have hf39 : z 225 26 = z0 225 26 := (hst.2.2.1 _ _ (notS_c (by omega) (notS_c (by omega) (notS_c (by omega) notS_n))))
        refine r_cVI (pc' := 18) rfl rfl rfl rfl rfl sh_225 (m_161 (d := d)  hst.1 hst.2.1 ) (fun v40 z41 w42 p43 h44 hs45 hE46 => ?_)
        obtain ⟨rfl, rfl, rfl, hE46⟩ := hE46
        refine r_ilt (pc' := 21) rfl rfl ⟨by omega, by omega⟩ ⟨by omega, by omega⟩ (fun hc48 => ?_) (fun hc48 => ?_)
        · skip
          refine r_ld (pc' := 26) rfl rfl rfl rfl ?_
          refine r_zge (pc' := 29) rfl rfl ⟨by omega, by omega⟩ (fun hc49 => ?_) (fun hc49 => ?_)
          · exfalso; omega
          · skip
            refine r_ld (pc' := 30) rfl rfl rfl rfl ?_
            refine r_gr (b := 270) (pc' := 33) rfl rfl sh_225 rfl pp_225_71 ?_
            refine r_ld (pc' := 34) rfl rfl rfl rfl ?_
            have hb50 := rd_270 hw (i := x2.toNat) (by omega)
            refine r_la (pc' := 35) rfl rfl sh_270 rfl (by omega) (by omega) (hst.2.2.2 _ _ (notS_c (by omega) (notS_c (by omega) (notS_c (by omega) notS_n)))) ?_
            refine r_go rfl ?_
            refine r_ls (pc' := 51) rfl rfl sh_257 rfl (by omega) (by omega) hst (inS_s (inS_s (inS_0 (by omega) (by omega) (by omega) (by omega)))) (wr_257 ⟨by omega, by omega⟩) (fun w51 hq52 hs53 => ?_)
            have hqw := hq52
            refine r_inc (pc' := 54) (lv' := [(0, _), (1, _)]) rfl rfl rfl rfl rfl ?_
            refine r_go rfl ?_
            have hb54 := rd_225_58 hz
            have hb55 := rd_225_59 hz
            exact w_lv (sub_c rfl (sub_c rfl (sub_c rfl sub_n))) rfl (ih0 (x2 + 1) z w51 ⟨by omega, by omega⟩ hs53 (un_z_225_58) (un_z_225_59) (by first | (intro j hj; exfalso; omega) | (intro j hj; rw [hqw]; by_cases c : j = x2.toNat; (subst c; rw [mu_eq]; first | (rw [tr_g (by omega)]) | (rw [tr_l (by omega)]; omega) | (rw [tr_l (by omega)]; exact hge) | (rw [tr_l (by omega)])); (rw [mu_ne (by omega)]; exact as1 j (by omega)))) (by omega))
        · skip
          refine r_lc0 (pc' := 22) rfl rfl ?_
          refine r_go rfl ?_
          refine r_ls (pc' := 51) rfl rfl sh_257 rfl (by omega) (by omega) hst (inS_s (inS_s (inS_0 (by omega) (by omega) (by omega) (by omega)))) (wr_257 ⟨by omega, by omega⟩) (fun w56 hq57 hs58 => ?_)
          have hqw := hq57
          refine r_inc (pc' := 54) (lv' := [(0, _), (1, _)]) rfl rfl rfl rfl rfl ?_
          refine r_go rfl ?_
          have hb59 := rd_225_58 hz
          have hb60 := rd_225_59 hz
          exact w_lv (sub_c rfl (sub_c rfl (sub_c rfl sub_n))) rfl (ih0 (x2 + 1) z w56 ⟨by omega, by omega⟩ hs58 (un_z_225_58) (un_z_225_59) (by first | (intro j hj; exfalso; omega) | (intro j hj; rw [hqw]; by_cases c : j = x2.toNat; (subst c; rw [mu_eq]; first | (rw [tr_g (by omega)]) | (rw [tr_l (by omega)]; omega) | (rw [tr_l (by omega)]; exact hge) | (rw [tr_l (by omega)])); (rw [mu_ne (by omega)]; exact as1 j (by omega)))) (by omega))
  refine w_m rfl rfl ?_
  refine r_c0 (pc' := 1) rfl rfl ?_
  refine r_st (pc' := 2) (lv' := [(2, _), (0, _), (1, _)]) rfl rfl rfl rfl ?_
  have hb61 := rd_225_58 hz
  have hb62 := rd_225_59 hz
  exact w_lv (sub_c rfl (sub_c rfl (sub_c rfl sub_n))) rfl ((key ((40 * (18 - 0) + 37 : Int).toNat + 1)) 0 z0 w0 ⟨by omega, by omega⟩ hst (rfl) (rfl) (by first | (intro j hj; exfalso; omega) | (intro j hj; rw [hqw]; by_cases c : j = x2.toNat; (subst c; rw [mu_eq]; first | (rw [tr_g (by omega)]) | (rw [tr_l (by omega)]; omega) | (rw [tr_l (by omega)]; exact hge) | (rw [tr_l (by omega)])); (rw [mu_ne (by omega)]; exact as1 j (by omega)))) (by omega))
/-- LoopGroundModel goTwist -/
abbrev S_210v  : mS := [(259, 259, 0, 17), (258, 258, 0, 323), (257, 257, 0, 17), (225, 225, 58, 58), (260, 260, 0, 17)]
abbrev E_210v (a1 : Int) (a2 : Int) (z0 w0 : mZ) (x y tx it mt tt ct : Option Nat) : mZ → mZ → mP → Prop := fun z w p => p = (pq x y tx it mt tt ct) ∧ (z 225 58 = 0 → GOk z0 w0 w (fun n => FT (z0 225 26).toNat (vT (z0 235)) n))
theorem m_210v {d : Nat} {z0 w0 : mZ} {x y tx it mt tt ct : Option Nat} (a1 : Int) (a2 : Int) (hz : rz z0) (hw : rw_ w0) (ha1 : 0 ≤ a1 ∧ a1 ≤ 7) (ha2 : (-99) ≤ a2 ∧ a2 ≤ 99) (hnb : NBr w0 257) (hsp : z0 225 58 = 0) (hft : FT (z0 225 26).toNat (vT (z0 235)) (w0 257)) (hgr : GRq z0 z0 a1.toNat) (hfa : z0 254 a1.toNat = 1) : wc (d + 5) 210 [.ref 225, .int (Int32.ofInt a1), .int (Int32.ofInt a2)] (mk z0 w0 (pq x y tx it mt tt ct)) (poV S_210v z0 w0 (E_210v a1 a2 z0 w0 x y tx it mt tt ct)) := by
  have hst : st_ S_210v z0 w0 z0 w0 := st_rf hz hw
  have hz46 := rd_225_26 hz
  have hz47 := rd_225_58 hz
  obtain ⟨⟨G, hgo, htw1, htw2, ga, gb, ge, gf, gae, gaf, gbe, gbf, gef⟩, hbe, bA, bB, bE, bF⟩ := hgr hfa
  obtain ⟨m, hm⟩ : ∃ m, m = (z0 225 26).toNat := ⟨_, rfl⟩
  obtain ⟨T, hT⟩ : ∃ T, T = vT (z0 235) := ⟨_, rfl⟩
  rw [← hm, ← hT] at hgo
  have h248 := rd_248 hz (i := a1.toNat) (by omega)
  have h249 := rd_249 hz (i := a1.toNat) (by omega)
  have h250 := rd_250 hz (i := a1.toNat) (by omega)
  have h251 := rd_251 hz (i := a1.toNat) (by omega)
  have h252 := rd_252 hz (i := a1.toNat) (by omega)
  have hm26 := rd_225_26 hz
  have hrE : rE z0 = 3 * z0 225 26 / 2 := rfl
  have key : ∀ N : Nat, (∀ (x3 : Int) (z w : mZ), 0 ≤ x3 ∧ x3 ≤ 99 → st_ S_210v z0 w0 z w → (z 225 58 = 0 → GOk z0 w0 w (fun n => G (z0 248 a1.toNat).toNat n)) → 49 * (99 - x3) + 4992 < (N : Int) → wp_ (d + 4) 210 4 none (7, [(0, .ref 225), (1, .int (Int32.ofInt a1)), (2, .int (Int32.ofInt a2)), (3, .int (Int32.ofInt x3))], [], mk z w (pq x y tx it mt tt ct)) (poV S_210v z0 w0 (E_210v a1 a2 z0 w0 x y tx it mt tt ct))) ∧ (∀ (x3 : Int) (z w : mZ), (-99) ≤ x3 ∧ x3 ≤ 0 → st_ S_210v z0 w0 z w → (z 225 58 = 0 → GOk z0 w0 w (fun n => G (z0 248 a1.toNat).toNat n)) → 49 * (x3 - (-99)) + 22 < (N : Int) → wp_ (d + 4) 210 4 none (44, [(0, .ref 225), (1, .int (Int32.ofInt a1)), (2, .int (Int32.ofInt a2)), (3, .int (Int32.ofInt x3))], [], mk z w (pq x y tx it mt tt ct)) (poV S_210v z0 w0 (E_210v a1 a2 z0 w0 x y tx it mt tt ct))) ∧ (∀ (z w : mZ), st_ S_210v z0 w0 z w → (z 225 58 = 0 → GOk z0 w0 w (fun n => G (z0 248 a1.toNat).toNat n)) → 3 < (N : Int) → wp_ (d + 4) 210 4 none (79, [(0, .ref 225), (1, .int (Int32.ofInt a1))], [], mk z w (pq x y tx it mt tt ct)) (poV S_210v z0 w0 (E_210v a1 a2 z0 w0 x y tx it mt tt ct))) := by
    intro N
    induction N with
    | zero =>
      refine ⟨?_, ?_, ?_⟩
      · intro x3 z w
        intros; exfalso; omega
      · intro x3 z w
        intros; exfalso; omega
      · intro  z w
        intros; exfalso; omega
    | succ N ih =>
      obtain ⟨ih0, ih1, ih2⟩ := ih
      refine ⟨?_, ?_, ?_⟩
      · intro x3 z w  hx3 hst as1 hM
        refine r_ld (pc' := 8) rfl rfl rfl rfl ?_
        refine r_ld (pc' := 9) rfl rfl rfl rfl ?_
        refine r_ige (pc' := 12) rfl rfl ⟨by omega, by omega⟩ ⟨by omega, by omega⟩ (fun hc48 => ?_) (fun hc48 => ?_)
        · skip
          refine r_c0 (pc' := 43) rfl rfl ?_
          refine r_st (pc' := 44) (lv' := [(3, _), (0, _), (1, _), (2, _)]) rfl rfl rfl rfl ?_
          have hb49 := rd_225_58 hst.1
          exact w_lv (sub_c rfl (sub_c rfl (sub_c rfl (sub_c rfl sub_n)))) rfl (ih1 0 z w ⟨by omega, by omega⟩ hst (by first | exact as1 | exact hgn) (by omega))
        · skip
          refine r_ld (pc' := 13) rfl rfl rfl rfl ?_
          have hb50 := rd_225_58 hst.1
          refine r_gi (pc' := 16) rfl rfl sh_225 rfl rfl ?_
          refine r_zne (pc' := 19) rfl rfl ⟨by omega, by omega⟩ (fun hc51 => ?_) (fun hc51 => ?_)
          · skip
            refine r_c0 (pc' := 43) rfl rfl ?_
            refine r_st (pc' := 44) (lv' := [(3, _), (0, _), (1, _), (2, _)]) rfl rfl rfl rfl ?_
            exact w_lv (sub_c rfl (sub_c rfl (sub_c rfl (sub_c rfl sub_n)))) rfl (ih1 0 z w ⟨by omega, by omega⟩ hst (by first | exact as1 | exact hgn) (by omega))
          · skip
            refine r_ld (pc' := 20) rfl rfl rfl rfl ?_
            refine r_ld (pc' := 21) rfl rfl rfl rfl ?_
            refine r_ld (pc' := 22) rfl rfl rfl rfl ?_
            refine r_gr (b := 250) (pc' := 25) rfl rfl sh_225 rfl pp_225_46 ?_
            refine r_ld (pc' := 26) rfl rfl rfl rfl ?_
            have hb52 := rd_250 hz (i := a1.toNat) (by omega)
            refine r_ia (pc' := 27) rfl rfl sh_250 rfl (by omega) (by omega) (hst.2.2.1 _ _ (notS_c (by omega) (notS_c (by omega) (notS_c (by omega) (notS_c (by omega) (notS_c (by omega) notS_n)))))) ?_
            refine r_ld (pc' := 28) rfl rfl rfl rfl ?_
            refine r_gr (b := 249) (pc' := 31) rfl rfl sh_225 rfl pp_225_45 ?_
            refine r_ld (pc' := 32) rfl rfl rfl rfl ?_
            have hb53 := rd_249 hz (i := a1.toNat) (by omega)
            refine r_ia (pc' := 33) rfl rfl sh_249 rfl (by omega) (by omega) (hst.2.2.1 _ _ (notS_c (by omega) (notS_c (by omega) (notS_c (by omega) (notS_c (by omega) (notS_c (by omega) notS_n)))))) ?_
            have e251 : z 251 = z0 251 := funext fun i => hst.2.2.1 _ _ (notS_c (by omega) (notS_c (by omega) (notS_c (by omega) (notS_c (by omega) (notS_c (by omega) (notS_n))))))
            have e252 : z 252 = z0 252 := funext fun i => hst.2.2.1 _ _ (notS_c (by omega) (notS_c (by omega) (notS_c (by omega) (notS_c (by omega) (notS_c (by omega) (notS_n))))))
            refine r_cVV (pc' := 36) rfl rfl rfl rfl rfl sh_225 (m_209v (d := d + 1) a1 (z0 250 a1.toNat) (z0 249 a1.toNat) hst.1 hst.2.1 ⟨by omega, by omega⟩ ⟨by omega, by omega⟩ ⟨by omega, by omega⟩ (by exact (as1 (by omega)).2.1) (by omega)) (fun z55 w56 p57 hs59 hE60 => ?_)
            have hs61 := st_tr hst hs59 (sub_B rfl)
            obtain ⟨rfl, hE60⟩ := hE60
            have hto := hE60
            rw [e251, e252] at hto
            have hgn : z55 225 58 = 0 → GOk z0 w0 w56 (fun n => G (z0 248 a1.toNat).toNat n) := fun hs => by have g := as1 (hto.2 hs).1; have gg1 : G (z0 248 a1.toNat).toNat (w56 257) := (by rw [hto.1]; exact htw1 _ g.1); exact ⟨gg1, fun j hj => ⟨hgo.nn _ _ (by omega) gg1 j hj, by by_cases c : j = (z0 250 a1.toNat).toNat; (subst c; exact (hto.2 hs).2); (rw [hto.1]; unfold tw; rw [if_neg c]; by_cases c2 : j = (z0 249 a1.toNat).toNat; (rw [if_pos c2]; exact (g.2.1 _ (by omega)).2); (rw [if_neg c2]; exact (g.2.1 j hj).2))⟩, fun q => NZE_tw hto.1 ⟨by omega, by omega, by omega⟩ ⟨by omega, by omega, by omega⟩ (by omega) (by omega) (by omega) (g.2.2 q)⟩
            refine r_inc (pc' := 39) (lv' := [(0, _), (1, _), (2, _)]) rfl rfl rfl rfl rfl ?_
            refine r_go rfl ?_
            have hb62 := rd_225_58 hs61.1
            exact w_lv (sub_c rfl (sub_c rfl (sub_c rfl (sub_c rfl sub_n)))) rfl (ih0 (x3 + 1) z55 w56 ⟨by omega, by omega⟩ hs61 (by first | exact hgf | exact hgn) (by omega))
      · intro x3 z w  hx3 hst as1 hM
        refine r_ld (pc' := 45) rfl rfl rfl rfl ?_
        refine r_ld (pc' := 46) rfl rfl rfl rfl ?_
        refine r_ile (pc' := 49) rfl rfl ⟨by omega, by omega⟩ ⟨by omega, by omega⟩ (fun hc63 => ?_) (fun hc63 => ?_)
        · skip
          have hb64 := rd_225_58 hst.1
          exact w_lv (sub_c rfl (sub_c rfl sub_n)) rfl (ih2 z w hst (by exact as1) (by omega))
        · skip
          refine r_ld (pc' := 50) rfl rfl rfl rfl ?_
          have hb65 := rd_225_58 hst.1
          refine r_gi (pc' := 53) rfl rfl sh_225 rfl rfl ?_
          refine r_zne (pc' := 56) rfl rfl ⟨by omega, by omega⟩ (fun hc66 => ?_) (fun hc66 => ?_)
          · skip
            exact w_lv (sub_c rfl (sub_c rfl sub_n)) rfl (ih2 z w hst (by exact as1) (by omega))
          · skip
            refine r_ld (pc' := 57) rfl rfl rfl rfl ?_
            refine r_ld (pc' := 58) rfl rfl rfl rfl ?_
            refine r_ld (pc' := 59) rfl rfl rfl rfl ?_
            refine r_gr (b := 249) (pc' := 62) rfl rfl sh_225 rfl pp_225_45 ?_
            refine r_ld (pc' := 63) rfl rfl rfl rfl ?_
            have hb67 := rd_249 hz (i := a1.toNat) (by omega)
            refine r_ia (pc' := 64) rfl rfl sh_249 rfl (by omega) (by omega) (hst.2.2.1 _ _ (notS_c (by omega) (notS_c (by omega) (notS_c (by omega) (notS_c (by omega) (notS_c (by omega) notS_n)))))) ?_
            refine r_ld (pc' := 65) rfl rfl rfl rfl ?_
            refine r_gr (b := 250) (pc' := 68) rfl rfl sh_225 rfl pp_225_46 ?_
            refine r_ld (pc' := 69) rfl rfl rfl rfl ?_
            have hb68 := rd_250 hz (i := a1.toNat) (by omega)
            refine r_ia (pc' := 70) rfl rfl sh_250 rfl (by omega) (by omega) (hst.2.2.1 _ _ (notS_c (by omega) (notS_c (by omega) (notS_c (by omega) (notS_c (by omega) (notS_c (by omega) notS_n)))))) ?_
            have e251 : z 251 = z0 251 := funext fun i => hst.2.2.1 _ _ (notS_c (by omega) (notS_c (by omega) (notS_c (by omega) (notS_c (by omega) (notS_c (by omega) (notS_n))))))
            have e252 : z 252 = z0 252 := funext fun i => hst.2.2.1 _ _ (notS_c (by omega) (notS_c (by omega) (notS_c (by omega) (notS_c (by omega) (notS_c (by omega) (notS_n))))))
            refine r_cVV (pc' := 73) rfl rfl rfl rfl rfl sh_225 (m_209v (d := d + 1) a1 (z0 249 a1.toNat) (z0 250 a1.toNat) hst.1 hst.2.1 ⟨by omega, by omega⟩ ⟨by omega, by omega⟩ ⟨by omega, by omega⟩ (by exact (as1 (by omega)).2.1) (by omega)) (fun z70 w71 p72 hs74 hE75 => ?_)
            have hs76 := st_tr hst hs74 (sub_B rfl)
            obtain ⟨rfl, hE75⟩ := hE75
            have hto := hE75
            rw [e251, e252] at hto
            have hgn : z70 225 58 = 0 → GOk z0 w0 w71 (fun n => G (z0 248 a1.toNat).toNat n) := fun hs => by have g := as1 (hto.2 hs).1; have gg1 : G (z0 248 a1.toNat).toNat (w71 257) := (by rw [hto.1]; exact htw2 _ g.1); exact ⟨gg1, fun j hj => ⟨hgo.nn _ _ (by omega) gg1 j hj, by by_cases c : j = (z0 249 a1.toNat).toNat; (subst c; exact (hto.2 hs).2); (rw [hto.1]; unfold tw; rw [if_neg c]; by_cases c2 : j = (z0 250 a1.toNat).toNat; (rw [if_pos c2]; exact (g.2.1 _ (by omega)).2); (rw [if_neg c2]; exact (g.2.1 j hj).2))⟩, fun q => NZE_tw hto.1 ⟨by omega, by omega, by omega⟩ ⟨by omega, by omega, by omega⟩ (by omega) (by omega) (by omega) (g.2.2 q)⟩
            refine r_inc (pc' := 76) (lv' := [(0, _), (1, _), (2, _)]) rfl rfl rfl rfl rfl ?_
            refine r_go rfl ?_
            have hb77 := rd_225_58 hs76.1
            exact w_lv (sub_c rfl (sub_c rfl (sub_c rfl (sub_c rfl sub_n)))) rfl (ih1 (x3 + ((-1))) z70 w71 ⟨by omega, by omega⟩ hs76 (by first | exact as1 | exact hgn) (by omega))
      · intro  z w  hst as1 hM
        refine r_ld (pc' := 80) rfl rfl rfl rfl ?_
        refine r_ld (pc' := 81) rfl rfl rfl rfl ?_
        have f247 : z 247 = z0 247 := funext fun i => hst.2.2.1 _ _ (notS_c (by omega) (notS_c (by omega) (notS_c (by omega) (notS_c (by omega) (notS_c (by omega) (notS_n))))))
        have f248 : z 248 = z0 248 := funext fun i => hst.2.2.1 _ _ (notS_c (by omega) (notS_c (by omega) (notS_c (by omega) (notS_c (by omega) (notS_c (by omega) (notS_n))))))
        have f26 : z 225 26 = z0 225 26 := hst.2.2.1 _ _ (notS_c (by omega) (notS_c (by omega) (notS_c (by omega) (notS_c (by omega) (notS_c (by omega) (notS_n))))))
        have fcq : cfQ z a1.toNat = cfQ z0 a1.toNat := by funext i j; unfold cfQ; rw [f247]
        have hb78 := rd_225_58 hst.1
        refine r_cVV (pc' := 84) rfl rfl rfl rfl rfl sh_225 (m_208v (d := d) m T G a1 hst.1 hst.2.1 ⟨by omega, by omega⟩ (by rw [f248]; exact fun hs => ⟨(as1 hs).1, (as1 hs).2.1⟩) (by rw [fcq, f248]; exact hgo) (by rw [fcq, f248]; unfold rE; rw [f26]; exact hbe)) (fun z80 w81 p82 hs84 hE85 => ?_)
        have hs86 := st_tr hst hs84 (sub_B rfl)
        obtain ⟨rfl, hE85⟩ := hE85
        have hgb := hE85
        unfold GOk rE at hgb
        rw [f26] at hgb
        have hb87 := rd_225_58 hs86.1
        exact r_ret rfl (po_V hs86 ⟨rfl, (by intro hs; have g := hgb.1 hs; have g0 := as1 (hgb.2 hs); exact ⟨by have q := (hgo.g0 _).mpr g.1; rw [hm, hT] at q; exact q, g.2.1, fun q => g.2.2 (g0.2.2 q)⟩)⟩)
  refine w_m rfl rfl ?_
  refine r_ld (pc' := 1) rfl rfl rfl rfl ?_
  refine r_ld (pc' := 2) rfl rfl rfl rfl ?_
  have hb88 := rd_225_58 hz
  refine r_cVV (pc' := 5) rfl rfl rfl rfl rfl sh_225 (m_206v (d := d) m T G a1 hst.1 hst.2.1 ⟨by omega, by omega⟩ (by exact hnb) (by first | omega | assumption) (by exact hgo) (by exact hbe) (by exact (hgo.g0 _).mp (by rw [hm, hT]; exact hft))) (fun z90 w91 p92 hs94 hE95 => ?_)
  have hs96 := st_tr hst hs94 (sub_B rfl)
  obtain ⟨rfl, hE95⟩ := hE95
  have hgf := hE95
  refine r_c0 (pc' := 6) rfl rfl ?_
  refine r_st (pc' := 7) (lv' := [(3, _), (0, _), (1, _), (2, _)]) rfl rfl rfl rfl ?_
  have hb97 := rd_225_58 hs96.1
  exact w_lv (sub_c rfl (sub_c rfl (sub_c rfl (sub_c rfl sub_n)))) rfl ((key ((49 * (99 - 0) + 4992 : Int).toNat + 1)).1 0 z90 w91 ⟨by omega, by omega⟩ hs96 (by first | exact hgf | exact hgn) (by omega))
/-- LoopGroundModel goWord -/
abbrev S_211v  : mS := [(259, 259, 0, 17), (258, 258, 0, 323), (257, 257, 0, 17), (225, 225, 58, 58), (260, 260, 0, 17)]
abbrev E_211v (a1 : Int) (z0 w0 : mZ) (x y tx it mt tt ct : Option Nat) : mZ → mZ → mP → Prop := fun z w p => p = (pq x y tx it mt tt ct) ∧ (z 225 58 = 0 → GOk z0 w0 w (fun n => FT (z0 225 26).toNat (vT (z0 235)) n))
theorem m_211v {d : Nat} {z0 w0 : mZ} {x y tx it mt tt ct : Option Nat} (a1 : Int) (hz : rz z0) (hw : rw_ w0) (ha1 : 0 ≤ a1 ∧ a1 ≤ 5) (hnb : NBr w0 257) (hsp : z0 225 58 = 0) (hft : FT (z0 225 26).toNat (vT (z0 235)) (w0 257)) (hga : GAr z0) (hfw : FWr z0 a1.toNat) : wc (d + 6) 211 [.ref 225, .int (Int32.ofInt a1)] (mk z0 w0 (pq x y tx it mt tt ct)) (poV S_211v z0 w0 (E_211v a1 z0 w0 x y tx it mt tt ct)) := by
  have hst : st_ S_211v z0 w0 z0 w0 := st_rf hz hw
  have hz19 := rd_225_26 hz
  have hz20 := rd_225_58 hz
  have hm26 := rd_225_26 hz
  have hrE : rE z0 = 3 * z0 225 26 / 2 := rfl
  have hln := rd_225_27 hz
  have key : ∀ N : Nat, (∀ (x2 : Int) (z w : mZ), 0 ≤ x2 ∧ x2 ≤ 8 → st_ S_211v z0 w0 z w → (z 225 58 = 0 → GOk z0 w0 w (fun n => FT (z0 225 26).toNat (vT (z0 235)) n)) → 32 * (8 - x2) + 29 < (N : Int) → wp_ (d + 5) 211 3 none (2, [(0, .ref 225), (1, .int (Int32.ofInt a1)), (2, .int (Int32.ofInt x2))], [], mk z w (pq x y tx it mt tt ct)) (poV S_211v z0 w0 (E_211v a1 z0 w0 x y tx it mt tt ct))) := by
    intro N
    induction N with
    | zero =>
      intro x2 z w
      intros; exfalso; omega
    | succ N ih =>
      have ih0 := ih; clear ih
      intro x2 z w  hx2 hst as1 hM
      have e26 : z 225 26 = z0 225 26 := hst.2.2.1 _ _ (notS_c (by omega) (notS_c (by omega) (notS_c (by omega) (notS_c (by omega) (notS_c (by omega) (notS_n))))))
      have e235 : z 235 = z0 235 := funext fun i => hst.2.2.1 _ _ (notS_c (by omega) (notS_c (by omega) (notS_c (by omega) (notS_c (by omega) (notS_c (by omega) (notS_n))))))
      refine r_ld (pc' := 3) rfl rfl rfl rfl ?_
      refine r_ld (pc' := 4) rfl rfl rfl rfl ?_
      refine r_gr (b := 239) (pc' := 7) rfl rfl sh_225 rfl pp_225_22 ?_
      refine r_ld (pc' := 8) rfl rfl rfl rfl ?_
      have hb21 := rd_239 hz (i := a1.toNat) (by omega)
      refine r_ia (pc' := 9) rfl rfl sh_239 rfl (by omega) (by omega) (hst.2.2.1 _ _ (notS_c (by omega) (notS_c (by omega) (notS_c (by omega) (notS_c (by omega) (notS_c (by omega) notS_n)))))) ?_
      refine r_ige (pc' := 12) rfl rfl ⟨by omega, by omega⟩ ⟨by omega, by omega⟩ (fun hc22 => ?_) (fun hc22 => ?_)
      · skip
        have hb23 := rd_225_58 hst.1
        exact r_ret rfl (po_V hst ⟨rfl, (by exact as1)⟩)
      · skip
        refine r_ld (pc' := 13) rfl rfl rfl rfl ?_
        have hb24 := rd_225_58 hst.1
        refine r_gi (pc' := 16) rfl rfl sh_225 rfl rfl ?_
        refine r_zne (pc' := 19) rfl rfl ⟨by omega, by omega⟩ (fun hc25 => ?_) (fun hc25 => ?_)
        · skip
          exact r_ret rfl (po_V hst ⟨rfl, (by exact as1)⟩)
        · skip
          refine r_ld (pc' := 20) rfl rfl rfl rfl ?_
          have hfi := hfw x2.toNat (by omega)
          have hfr := rd_237 hz (i := 8 * a1.toNat + x2.toNat) (by omega)
          have hix : (8 * a1 + x2).toNat = 8 * a1.toNat + x2.toNat := by omega
          rw [← hix] at hfi hfr
          refine r_ld (pc' := 21) rfl rfl rfl rfl ?_
          refine r_gr (b := 237) (pc' := 24) rfl rfl sh_225 rfl pp_225_20 ?_
          refine r_cb (pc' := 26) rfl (by decide) rfl ?_
          refine r_ld (pc' := 27) rfl rfl rfl rfl ?_
          refine r_mul (pc' := 28) rfl rfl ?_
          refine r_ld (pc' := 29) rfl rfl rfl rfl ?_
          refine r_add (pc' := 30) rfl rfl ?_
          have hb26 := rd_237 hz (i := ((8 * a1) + x2).toNat) (by omega)
          refine r_ia (pc' := 31) rfl rfl sh_237 rfl (by omega) (by omega) (hst.2.2.1 _ _ (notS_c (by omega) (notS_c (by omega) (notS_c (by omega) (notS_c (by omega) (notS_c (by omega) notS_n)))))) ?_
          refine r_ld (pc' := 32) rfl rfl rfl rfl ?_
          refine r_gr (b := 238) (pc' := 35) rfl rfl sh_225 rfl pp_225_21 ?_
          refine r_cb (pc' := 37) rfl (by decide) rfl ?_
          refine r_ld (pc' := 38) rfl rfl rfl rfl ?_
          refine r_mul (pc' := 39) rfl rfl ?_
          refine r_ld (pc' := 40) rfl rfl rfl rfl ?_
          refine r_add (pc' := 41) rfl rfl ?_
          have hb27 := rd_238 hz (i := ((8 * a1) + x2).toNat) (by omega)
          refine r_ia (pc' := 42) rfl rfl sh_238 rfl (by omega) (by omega) (hst.2.2.1 _ _ (notS_c (by omega) (notS_c (by omega) (notS_c (by omega) (notS_c (by omega) (notS_c (by omega) notS_n)))))) ?_
          have hb28 := rd_225_26 hz
          have hf29 : z 225 26 = z0 225 26 := (hst.2.2.1 _ _ (notS_c (by omega) (notS_c (by omega) (notS_c (by omega) (notS_c (by omega) (notS_c (by omega) notS_n))))))
          have hF30 : z 235 = z0 235 := (funext fun _ => hst.2.2.1 _ _ (notS_c (by omega) (notS_c (by omega) (notS_c (by omega) (notS_c (by omega) (notS_c (by omega) notS_n))))))
          refine r_cVV (pc' := 45) rfl rfl rfl rfl rfl sh_225 (m_210v (d := d) (z0 237 ((8 * a1) + x2).toNat) (z0 238 ((8 * a1) + x2).toNat) hst.1 hst.2.1 ⟨by omega, by omega⟩ ⟨by omega, by omega⟩ (by exact (as1 (by omega)).2.1) (by first | omega | assumption | (simp only [hF30, hf29]; assumption)) (by rw [e26, e235]; exact (as1 (by omega)).1) (by exact GRq_c (hst.2.2.1 _ _ (notS_c (by omega) (notS_c (by omega) (notS_c (by omega) (notS_c (by omega) (notS_c (by omega) (notS_n))))))) (funext fun i => hst.2.2.1 _ _ (notS_c (by omega) (notS_c (by omega) (notS_c (by omega) (notS_c (by omega) (notS_c (by omega) (notS_n))))))) (fun a h1 h2 => funext fun i => hst.2.2.1 _ _ (notS_c (by omega) (notS_c (by omega) (notS_c (by omega) (notS_c (by omega) (notS_c (by omega) (notS_n))))))) (hga _ (by omega))) (by exact (hst.2.2.1 _ _ (notS_c (by omega) (notS_c (by omega) (notS_c (by omega) (notS_c (by omega) (notS_c (by omega) (notS_n))))))).trans hfi.2)) (fun z32 w33 p34 hs36 hE37 => ?_)
          have hs38 := st_tr hst hs36 (sub_B rfl)
          obtain ⟨rfl, hE37⟩ := hE37
          have hgt := hE37
          unfold GOk rE at hgt
          rw [e26, e235] at hgt
          refine r_inc (pc' := 48) (lv' := [(0, _), (1, _)]) rfl rfl rfl rfl rfl ?_
          refine r_go rfl ?_
          have hb39 := rd_225_58 hs38.1
          exact w_lv (sub_c rfl (sub_c rfl (sub_c rfl sub_n))) rfl (ih0 (x2 + 1) z32 w33 ⟨by omega, by omega⟩ hs38 (by first | exact fun _ => ⟨hft, hnb, fun q => q⟩ | (intro hs; have g := hgt hs; have g0 := as1 (by omega); exact ⟨g.1, g.2.1, fun q => g.2.2 (g0.2.2 q)⟩)) (by omega))
  refine w_m rfl rfl ?_
  refine r_c0 (pc' := 1) rfl rfl ?_
  refine r_st (pc' := 2) (lv' := [(2, _), (0, _), (1, _)]) rfl rfl rfl rfl ?_
  have hb40 := rd_225_58 hz
  exact w_lv (sub_c rfl (sub_c rfl (sub_c rfl sub_n))) rfl ((key ((32 * (8 - 0) + 29 : Int).toNat + 1)) 0 z0 w0 ⟨by omega, by omega⟩ hst (by first | exact fun _ => ⟨hft, hnb, fun q => q⟩ | (intro hs; have g := hgt hs; have g0 := as1 (by omega); exact ⟨g.1, g.2.1, fun q => g.2.2 (g0.2.2 q)⟩)) (by omega))
