/-! methods, printed by wip/tools/vcg.py -/
/-- LoopGroundModel layOver -/
abbrev S_176v  : mS := [(241, 241, 0, 17), (240, 240, 0, 35)]
abbrev E_176v  (z0 w0 : mZ) (x y tx it mt tt ct : Option Nat) : mZ → mZ → mP → Prop := fun z w p => p = (pq x y tx it mt tt ct) ∧ (RW z)
theorem m_176v {d : Nat} {z0 w0 : mZ} {x y tx it mt tt ct : Option Nat}  (hz : rz z0) (hw : rw_ w0) (hly : LY (z0 225 26) (rE z0) (z0 235)) : wc (d + 1) 176 [.ref 225] (mk z0 w0 (pq x y tx it mt tt ct)) (poV S_176v z0 w0 (E_176v  z0 w0 x y tx it mt tt ct)) := by
  have hst : st_ S_176v z0 w0 z0 w0 := st_rf hz hw
  have hz19 := rd_225_26 hz
  have hm26 := rd_225_26 hz
  have hrE : rE z0 = 3 * z0 225 26 / 2 := rfl
  have key : ∀ N : Nat, (∀ (x1 : Int) (z w : mZ), 0 ≤ x1 ∧ x1 ≤ 18 → st_ S_176v z0 w0 z w → (∀ e : Nat, (e : Int) < x1 → z 241 e = -1) → 55 * (18 - x1) + 2142 < (N : Int) → wp_ (d) 176 3 none (2, [(0, .ref 225), (1, .int (Int32.ofInt x1))], [], mk z w (pq x y tx it mt tt ct)) (poV S_176v z0 w0 (E_176v  z0 w0 x y tx it mt tt ct))) ∧ (∀ (x1 : Int) (z w : mZ), 0 ≤ x1 ∧ x1 ≤ 36 → st_ S_176v z0 w0 z w → (LO (rE z0) (z0 235) (z 240) (z 241) x1) → (x1 ≤ 3 * z0 225 26) → 55 * (36 - x1) + 40 < (N : Int) → wp_ (d) 176 3 none (23, [(0, .ref 225), (1, .int (Int32.ofInt x1))], [], mk z w (pq x y tx it mt tt ct)) (poV S_176v z0 w0 (E_176v  z0 w0 x y tx it mt tt ct))) := by
    intro N
    induction N with
    | zero =>
      refine ⟨?_, ?_⟩
      · intro x1 z w
        intros; exfalso; omega
      · intro x1 z w
        intros; exfalso; omega
    | succ N ih =>
      obtain ⟨ih0, ih1⟩ := ih
      refine ⟨?_, ?_⟩
      · intro x1 z w  hx1 hst as1 hM
        refine r_ld (pc' := 3) rfl rfl rfl rfl ?_
        refine r_cb (pc' := 5) rfl (by decide) rfl ?_
        refine r_ige (pc' := 8) rfl rfl ⟨by omega, by omega⟩ ⟨by decide, by decide⟩ (fun hc20 => ?_) (fun hc20 => ?_)
        · skip
          refine r_c0 (pc' := 22) rfl rfl ?_
          refine r_st (pc' := 23) (lv' := [(1, _), (0, _)]) rfl rfl rfl rfl ?_
          exact w_lv (sub_c rfl (sub_c rfl sub_n)) rfl (ih1 0 z w ⟨by omega, by omega⟩ hst (by first | exact LO_0 (fun e he => as1 e (by omega)) | (rw [show z 240 = z 240 from funext fun i => rfl]; exact LO_a as1 (by omega) (e0 := (z0 235 x1.toNat).toNat) (by omega) (by omega) (fun j hj => by rw [hqa]; exact mu_ne (by omega)) (by rw [hqa]; exact mu_eq)) | (rw [show z 241 = z 241 from funext fun i => rfl]; exact LO_b hly as1 (by omega) (by omega) (e0 := (z0 235 x1.toNat).toNat) (by omega) (by omega) (fun j h1 h2 => by rw [hqc, mu_ne (by omega), hqb, mu_ne (by omega)]) (by rw [hqc, mu_ne (by omega), hqb, mu_eq]) (by rw [hqc]; exact mu_eq))) (by first | omega | assumption) (by omega))
        · skip
          refine r_ld (pc' := 9) rfl rfl rfl rfl ?_
          refine r_gr (b := 241) (pc' := 12) rfl rfl sh_225 rfl pp_225_30 ?_
          refine r_ld (pc' := 13) rfl rfl rfl rfl ?_
          refine r_c0 (pc' := 14) rfl rfl ?_
          refine r_is (pc' := 15) rfl rfl sh_241 rfl (by omega) (by omega) hst (inS_0 (by omega) (by omega) (by omega) (by omega)) (wr_241 ⟨by omega, by omega⟩) (fun z21 hq22 hs23 => ?_)
          have hqm := hq22
          refine r_inc (pc' := 18) (lv' := [(0, _)]) rfl rfl rfl rfl rfl ?_
          refine r_go rfl ?_
          exact w_lv (sub_c rfl (sub_c rfl sub_n)) rfl (ih0 (x1 + 1) z21 w ⟨by omega, by omega⟩ hs23 (by first | (intro e he; exfalso; omega) | (intro e he; rw [hqm]; by_cases c : e = x1.toNat; (subst c; exact mu_eq); (rw [mu_ne (by omega)]; exact as1 e (by omega)))) (by omega))
      · intro x1 z w  hx1 hst as1 as2 hM
        refine r_ld (pc' := 24) rfl rfl rfl rfl ?_
        refine r_c0 (pc' := 25) rfl rfl ?_
        refine r_ld (pc' := 26) rfl rfl rfl rfl ?_
        have hb24 := rd_225_26 hz
        refine r_gi (pc' := 29) rfl rfl sh_225 rfl (hst.2.2.1 _ _ (notS_c (by omega) (notS_c (by omega) notS_n))) ?_
        refine r_mul (pc' := 30) rfl rfl ?_
        refine r_ige (pc' := 33) rfl rfl ⟨by omega, by omega⟩ ⟨by omega, by omega⟩ (fun hc25 => ?_) (fun hc25 => ?_)
        · skip
          exact r_ret rfl (po_V hst ⟨rfl, (by have k := LO_end hly as1 (by omega); unfold RW rE; rw [show z 225 26 = z0 225 26 from hst.2.2.1 _ _ (notS_c (by omega) (notS_c (by omega) (notS_n))), show z 235 = z0 235 from funext fun i => hst.2.2.1 _ _ (notS_c (by omega) (notS_c (by omega) (notS_n)))]; exact k)⟩)
        · skip
          refine r_ld (pc' := 34) rfl rfl rfl rfl ?_
          refine r_gr (b := 235) (pc' := 37) rfl rfl sh_225 rfl pp_225_18 ?_
          refine r_ld (pc' := 38) rfl rfl rfl rfl ?_
          have hb26 := rd_235 hz (i := x1.toNat) (by omega)
          refine r_ia (pc' := 39) rfl rfl sh_235 rfl (by omega) (by omega) (hst.2.2.1 _ _ (notS_c (by omega) (notS_c (by omega) notS_n))) ?_
          refine r_st (pc' := 40) (lv' := [(2, _), (0, _), (1, _)]) rfl rfl rfl rfl ?_
          have hE0 := hly.2.2.2.1 x1.toNat (by omega)
          refine r_ld (pc' := 41) rfl rfl rfl rfl ?_
          refine r_gr (b := 241) (pc' := 44) rfl rfl sh_225 rfl pp_225_30 ?_
          refine r_ld (pc' := 45) rfl rfl rfl rfl ?_
          have hb27 := rd_241 hst.1 (i := (z0 235 x1.toNat).toNat) (by omega)
          refine r_ia (pc' := 46) rfl rfl sh_241 rfl (by omega) (by omega) rfl ?_
          refine r_zge (pc' := 49) rfl rfl ⟨by omega, by omega⟩ (fun hc28 => ?_) (fun hc28 => ?_)
          · skip
            refine r_ld (pc' := 60) rfl rfl rfl rfl ?_
            have hlt := LO_lt as1 (e := (z0 235 x1.toNat).toNat) (by omega) (by omega)
            refine r_gr (b := 240) (pc' := 63) rfl rfl sh_225 rfl pp_225_29 ?_
            refine r_ld (pc' := 64) rfl rfl rfl rfl ?_
            refine r_ld (pc' := 65) rfl rfl rfl rfl ?_
            refine r_gr (b := 241) (pc' := 68) rfl rfl sh_225 rfl pp_225_30 ?_
            refine r_ld (pc' := 69) rfl rfl rfl rfl ?_
            refine r_ia (pc' := 70) rfl rfl sh_241 rfl (by omega) (by omega) rfl ?_
            refine r_is (pc' := 71) rfl rfl sh_240 rfl (by omega) (by omega) hst (inS_s (inS_0 (by omega) (by omega) (by omega) (by omega))) (wr_240 ⟨by omega, by omega⟩) (fun z29 hq30 hs31 => ?_)
            have hqb := hq30
            refine r_ld (pc' := 72) rfl rfl rfl rfl ?_
            refine r_gr (b := 240) (pc' := 75) rfl rfl sh_225 rfl pp_225_29 ?_
            refine r_ld (pc' := 76) rfl rfl rfl rfl ?_
            refine r_gr (b := 241) (pc' := 79) rfl rfl sh_225 rfl pp_225_30 ?_
            refine r_ld (pc' := 80) rfl rfl rfl rfl ?_
            refine r_ia (pc' := 81) rfl rfl sh_241 rfl (by omega) (by omega) ((congrFun (congrFun hq30 _) _).trans (mu_ne (by omega))) ?_
            refine r_ld (pc' := 82) rfl rfl rfl rfl ?_
            refine r_is (pc' := 83) rfl rfl sh_240 rfl (by omega) (by omega) hs31 (inS_s (inS_0 (by omega) (by omega) (by omega) (by omega))) (wr_240 ⟨by omega, by omega⟩) (fun z32 hq33 hs34 => ?_)
            have hqc := hq33
            refine r_inc (pc' := 86) (lv' := [(2, _), (0, _)]) rfl rfl rfl rfl rfl ?_
            refine r_go rfl ?_
            have hF35 : z32 241 = z 241 := (((congrFun hq33 _).trans (mu_fn (by omega))).trans ((congrFun hq30 _).trans (mu_fn (by omega))))
            exact w_lv (sub_c rfl (sub_c rfl sub_n)) rfl (ih1 (x1 + 1) z32 w ⟨by omega, by omega⟩ hs34 (by first | exact LO_0 (fun e he => as1 e (by omega)) | (rw [show z32 240 = z 240 from funext fun i => (((congrFun (congrFun hq33 _) _).trans (mu_ne (by omega))).trans ((congrFun (congrFun hq30 _) _).trans (mu_ne (by omega))))]; exact LO_a as1 (by omega) (e0 := (z0 235 x1.toNat).toNat) (by omega) (by omega) (fun j hj => by rw [hqa]; exact mu_ne (by omega)) (by rw [hqa]; exact mu_eq)) | (rw [show z32 241 = z 241 from funext fun i => (((congrFun (congrFun hq33 _) _).trans (mu_ne (by omega))).trans ((congrFun (congrFun hq30 _) _).trans (mu_ne (by omega))))]; exact LO_b hly as1 (by omega) (by omega) (e0 := (z0 235 x1.toNat).toNat) (by omega) (by omega) (fun j h1 h2 => by rw [hqc, mu_ne (by omega), hqb, mu_ne (by omega)]) (by rw [hqc, mu_ne (by omega), hqb, mu_eq]) (by rw [hqc]; exact mu_eq))) (by first | omega | assumption | (simp only [hF35]; assumption)) (by omega))
          · skip
            refine r_ld (pc' := 50) rfl rfl rfl rfl ?_
            refine r_gr (b := 241) (pc' := 53) rfl rfl sh_225 rfl pp_225_30 ?_
            refine r_ld (pc' := 54) rfl rfl rfl rfl ?_
            refine r_ld (pc' := 55) rfl rfl rfl rfl ?_
            refine r_is (pc' := 56) rfl rfl sh_241 rfl (by omega) (by omega) hst (inS_0 (by omega) (by omega) (by omega) (by omega)) (wr_241 ⟨by omega, by omega⟩) (fun z36 hq37 hs38 => ?_)
            have hqa := hq37
            refine r_go rfl ?_
            refine r_inc (pc' := 86) (lv' := [(2, _), (0, _)]) rfl rfl rfl rfl rfl ?_
            refine r_go rfl ?_
            have hF39 : z36 240 = z 240 := ((congrFun hq37 _).trans (mu_fn (by omega)))
            exact w_lv (sub_c rfl (sub_c rfl sub_n)) rfl (ih1 (x1 + 1) z36 w ⟨by omega, by omega⟩ hs38 (by first | exact LO_0 (fun e he => as1 e (by omega)) | (rw [show z36 240 = z 240 from funext fun i => ((congrFun (congrFun hq37 _) _).trans (mu_ne (by omega)))]; exact LO_a as1 (by omega) (e0 := (z0 235 x1.toNat).toNat) (by omega) (by omega) (fun j hj => by rw [hqa]; exact mu_ne (by omega)) (by rw [hqa]; exact mu_eq)) | (rw [show z36 241 = z 241 from funext fun i => ((congrFun (congrFun hq37 _) _).trans (mu_ne (by omega)))]; exact LO_b hly as1 (by omega) (by omega) (e0 := (z0 235 x1.toNat).toNat) (by omega) (by omega) (fun j h1 h2 => by rw [hqc, mu_ne (by omega), hqb, mu_ne (by omega)]) (by rw [hqc, mu_ne (by omega), hqb, mu_eq]) (by rw [hqc]; exact mu_eq))) (by first | omega | assumption | (simp only [hF39]; assumption)) (by omega))
  refine w_m rfl rfl ?_
  refine r_c0 (pc' := 1) rfl rfl ?_
  refine r_st (pc' := 2) (lv' := [(1, _), (0, _)]) rfl rfl rfl rfl ?_
  exact w_lv (sub_c rfl (sub_c rfl sub_n)) rfl ((key ((55 * (18 - 0) + 2142 : Int).toNat + 1)).1 0 z0 w0 ⟨by omega, by omega⟩ hst (by first | (intro e he; exfalso; omega) | (intro e he; rw [hqm]; by_cases c : e = x1.toNat; (subst c; exact mu_eq); (rw [mu_ne (by omega)]; exact as1 e (by omega)))) (by omega))
