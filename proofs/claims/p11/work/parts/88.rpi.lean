/-! methods, printed by wip/tools/vcg.py -/
/-- LoopGroundModel exchange -/
abbrev S_245v  : mS := [(271, 271, 0, 1097), (270, 270, 0, 17)]
abbrev E_245v (a1 : Int) (z0 w0 : mZ) (x y tx it mt tt ct : Option Nat) : mZ → mZ → mP → Prop := fun z w p => p = (pq x y tx it mt tt ct) ∧ (EXd w0 w a1.toNat)
theorem m_245v {d : Nat} {z0 w0 : mZ} {x y tx it mt tt ct : Option Nat} (a1 : Int) (hz : rz z0) (hw : rw_ w0) (ha1 : 0 ≤ a1 ∧ a1 ≤ 60) : wc (d + 1) 245 [.ref 225, .int (Int32.ofInt a1)] (mk z0 w0 (pq x y tx it mt tt ct)) (poV S_245v z0 w0 (E_245v a1 z0 w0 x y tx it mt tt ct)) := by
  have hst : st_ S_245v z0 w0 z0 w0 := st_rf hz hw
  have key : ∀ N : Nat, (∀ (x2 : Int) (z w : mZ), 0 ≤ x2 ∧ x2 ≤ 18 → st_ S_245v z0 w0 z w → (∀ e : Nat, (e : Int) < x2 → w 271 (18 * a1.toNat + e) = w0 270 e ∧ w 270 e = w0 271 (18 * a1.toNat + e)) → (∀ e : Nat, x2 ≤ e → e < 18 → w 271 (18 * a1.toNat + e) = w0 271 (18 * a1.toNat + e) ∧ w 270 e = w0 270 e) → (∀ i : Nat, i < 18 * a1.toNat ∨ 18 * a1.toNat + 18 ≤ i → w 271 i = w0 271 i) → 34 * (18 - x2) + 31 < (N : Int) → wp_ (d) 245 5 none (2, [(0, .ref 225), (1, .int (Int32.ofInt a1)), (2, .int (Int32.ofInt x2))], [], mk z w (pq x y tx it mt tt ct)) (poV S_245v z0 w0 (E_245v a1 z0 w0 x y tx it mt tt ct))) := by
    intro N
    induction N with
    | zero =>
      intro x2 z w
      intros; exfalso; omega
    | succ N ih =>
      have ih0 := ih; clear ih
      intro x2 z w  hx2 hst as1 as2 as3 hM
      refine r_ld (pc' := 3) rfl rfl rfl rfl ?_
      refine r_cb (pc' := 5) rfl (by decide) rfl ?_
      refine r_ige (pc' := 8) rfl rfl ⟨by omega, by omega⟩ ⟨by decide, by decide⟩ (fun hc10 => ?_) (fun hc10 => ?_)
      · skip
        exact r_ret rfl (po_V hst ⟨rfl, (by exact ⟨fun e he => as1 e (by omega), as3⟩)⟩)
      · skip
        refine r_ld (pc' := 9) rfl rfl rfl rfl ?_
        refine r_gr (b := 271) (pc' := 12) rfl rfl sh_225 rfl pp_225_72 ?_
        refine r_cb (pc' := 14) rfl (by decide) rfl ?_
        refine r_ld (pc' := 15) rfl rfl rfl rfl ?_
        refine r_mul (pc' := 16) rfl rfl ?_
        refine r_ld (pc' := 17) rfl rfl rfl rfl ?_
        refine r_add (pc' := 18) rfl rfl ?_
        have hb11 := rd_271 hst.2.1 (i := ((18 * a1) + x2).toNat) (by omega)
        refine r_la (pc' := 19) rfl rfl sh_271 rfl (by omega) (by omega) rfl ?_
        refine r_st (pc' := 20) (lv' := [(3, _), (0, _), (1, _), (2, _)]) rfl rfl rfl rfl ?_
        refine r_ld (pc' := 21) rfl rfl rfl rfl ?_
        refine r_gr (b := 271) (pc' := 24) rfl rfl sh_225 rfl pp_225_72 ?_
        refine r_cb (pc' := 26) rfl (by decide) rfl ?_
        refine r_ld (pc' := 27) rfl rfl rfl rfl ?_
        refine r_mul (pc' := 28) rfl rfl ?_
        refine r_ld (pc' := 29) rfl rfl rfl rfl ?_
        refine r_add (pc' := 30) rfl rfl ?_
        refine r_ld (pc' := 31) rfl rfl rfl rfl ?_
        refine r_gr (b := 270) (pc' := 34) rfl rfl sh_225 rfl pp_225_71 ?_
        refine r_ld (pc' := 35) rfl rfl rfl rfl ?_
        have hb12 := rd_270 hst.2.1 (i := x2.toNat) (by omega)
        refine r_la (pc' := 36) rfl rfl sh_270 rfl (by omega) (by omega) rfl ?_
        refine r_ls (pc' := 37) rfl rfl sh_271 rfl (by omega) (by omega) hst (inS_0 (by omega) (by omega) (by omega) (by omega)) (wr_271 ⟨by omega, by omega⟩) (fun w13 hq14 hs15 => ?_)
        have hqa := hq14
        refine r_ld (pc' := 38) rfl rfl rfl rfl ?_
        refine r_gr (b := 270) (pc' := 41) rfl rfl sh_225 rfl pp_225_71 ?_
        refine r_ld (pc' := 42) rfl rfl rfl rfl ?_
        refine r_ld (pc' := 43) rfl rfl rfl rfl ?_
        refine r_ls (pc' := 44) rfl rfl sh_270 rfl (by omega) (by omega) hs15 (inS_s (inS_0 (by omega) (by omega) (by omega) (by omega))) (wr_270 ⟨by omega, by omega⟩) (fun w16 hq17 hs18 => ?_)
        have hqb := hq17
        refine r_inc (pc' := 47) (lv' := [(3, _), (0, _), (1, _)]) rfl rfl rfl rfl rfl ?_
        refine r_go rfl ?_
        exact w_lv (sub_c rfl (sub_c rfl (sub_c rfl sub_n))) rfl (ih0 (x2 + 1) z w16 ⟨by omega, by omega⟩ hs18 (by first | (intro e he; exfalso; omega) | (intro e he; have k2 := as2 x2.toNat (by omega) (by omega); by_cases c : e = x2.toNat; (subst c; exact ⟨by rw [hqb, mu_ne (by omega), hqa, mu_eqi (by omega)]; exact k2.2, by rw [hqb, mu_eq, show (18 * a1 + x2).toNat = 18 * a1.toNat + x2.toNat by omega]; exact k2.1⟩); (rw [hqb, mu_ne (by omega), mu_ne (by omega), hqa, mu_ne (by omega), mu_ne (by omega)]; exact as1 e (by omega)))) (by first | (intro e he h2; exact ⟨rfl, rfl⟩) | (intro e he h2; rw [hqb, mu_ne (by omega), mu_ne (by omega), hqa, mu_ne (by omega), mu_ne (by omega)]; exact as2 e (by omega) h2)) (by first | (intro i hi; rfl) | (intro i hi; rw [hqb, mu_ne (by omega), hqa, mu_ne (by omega)]; exact as3 i hi)) (by omega))
  refine w_m rfl rfl ?_
  refine r_c0 (pc' := 1) rfl rfl ?_
  refine r_st (pc' := 2) (lv' := [(2, _), (0, _), (1, _)]) rfl rfl rfl rfl ?_
  exact w_lv (sub_c rfl (sub_c rfl (sub_c rfl sub_n))) rfl ((key ((34 * (18 - 0) + 31 : Int).toNat + 1)) 0 z0 w0 ⟨by omega, by omega⟩ hst (by first | (intro e he; exfalso; omega) | (intro e he; have k2 := as2 x2.toNat (by omega) (by omega); by_cases c : e = x2.toNat; (subst c; exact ⟨by rw [hqb, mu_ne (by omega), hqa, mu_eqi (by omega)]; exact k2.2, by rw [hqb, mu_eq, show (18 * a1 + x2).toNat = 18 * a1.toNat + x2.toNat by omega]; exact k2.1⟩); (rw [hqb, mu_ne (by omega), mu_ne (by omega), hqa, mu_ne (by omega), mu_ne (by omega)]; exact as1 e (by omega)))) (by first | (intro e he h2; exact ⟨rfl, rfl⟩) | (intro e he h2; rw [hqb, mu_ne (by omega), mu_ne (by omega), hqa, mu_ne (by omega), mu_ne (by omega)]; exact as2 e (by omega) h2)) (by first | (intro i hi; rfl) | (intro i hi; rw [hqb, mu_ne (by omega), hqa, mu_ne (by omega)]; exact as3 i hi)) (by omega))
/-- LoopGroundModel undo -/
abbrev S_246v  : mS := [(225, 225, 73, 73), (271, 271, 0, 1097), (270, 270, 0, 17), (225, 225, 74, 74)]
abbrev E_246v  (z0 w0 : mZ) (x y tx it mt tt ct : Option Nat) : Int → mZ → mZ → mP → Prop := fun v z w p => p = (pq x y tx it mt tt ct) ∧ 0 ≤ v ∧ v ≤ 1 ∧ (RV z w)
theorem m_246v {d : Nat} {z0 w0 : mZ} {x y tx it mt tt ct : Option Nat}  (hz : rz z0) (hw : rw_ w0) (hrv : RV z0 w0) : wc (d + 2) 246 [.ref 225] (mk z0 w0 (pq x y tx it mt tt ct)) (poI S_246v z0 w0 (E_246v  z0 w0 x y tx it mt tt ct)) := by
  have hst : st_ S_246v z0 w0 z0 w0 := st_rf hz hw
  have hau := hrv.2.2.1.1
  have h73 := rd_225_73 hz
  have h74 := rd_225_74 hz
  refine w_m rfl rfl ?_
  refine r_ld (pc' := 1) rfl rfl rfl rfl ?_
  have hb21 := rd_225_73 hz
  refine r_gi (pc' := 4) rfl rfl sh_225 rfl rfl ?_
  refine r_zne (pc' := 7) rfl rfl ⟨by omega, by omega⟩ (fun hc22 => ?_) (fun hc22 => ?_)
  · skip
    refine r_ld (pc' := 10) rfl rfl rfl rfl ?_
    refine r_al (pc' := 11) rfl rfl rfl rfl ?_
    refine r_gi (pc' := 14) rfl rfl sh_225 rfl rfl ?_
    refine r_c0 (pc' := 15) rfl rfl ?_
    refine r_sub (pc' := 16) rfl rfl ?_
    refine r_pi (pc' := 19) rfl rfl sh_225 rfl rfl hst (inS_0 (by omega) (by omega) (by omega) (by omega)) (wr_225_73 ⟨by omega, by omega⟩) (fun z23 hq24 hs25 => ?_)
    refine r_ld (pc' := 20) rfl rfl rfl rfl ?_
    refine r_ld (pc' := 21) rfl rfl rfl rfl ?_
    refine r_gi (pc' := 24) rfl rfl sh_225 rfl ((congrFun (congrFun hq24 _) _).trans mu_eq) ?_
    refine r_cVV (pc' := 27) rfl rfl rfl rfl rfl sh_225 (m_245v (d := d) ((z0 225 73) - 1) hs25.1 hs25.2.1 ⟨by omega, by omega⟩) (fun z27 w28 p29 hs31 hE32 => ?_)
    have hs33 := st_tr hs25 hs31 (sub_B rfl)
    obtain ⟨rfl, hE32⟩ := hE32
    have hex := hE32
    refine r_ld (pc' := 28) rfl rfl rfl rfl ?_
    refine r_al (pc' := 29) rfl rfl rfl rfl ?_
    have hb34 := rd_225_74 hz
    refine r_gi (pc' := 32) rfl rfl sh_225 rfl ((hs31.2.2.1 _ _ (notS_c (by omega) (notS_c (by omega) notS_n))).trans ((congrFun (congrFun hq24 _) _).trans (mu_ne (by omega)))) ?_
    refine r_c0 (pc' := 33) rfl rfl ?_
    refine r_add (pc' := 34) rfl rfl ?_
    refine r_pi (pc' := 37) rfl rfl sh_225 rfl rfl hs33 (inS_s (inS_s (inS_s (inS_0 (by omega) (by omega) (by omega) (by omega))))) (wr_225_74 ⟨by omega, by omega⟩) (fun z35 hq36 hs37 => ?_)
    refine r_c0 (pc' := 38) rfl rfl ?_
    have hf38 : z35 225 73 = (z0 225 73) - 1 := (((congrFun (congrFun hq36 _) _).trans (mu_ne (by omega))).trans ((hs31.2.2.1 _ _ (notS_c (by omega) (notS_c (by omega) notS_n))).trans ((congrFun (congrFun hq24 _) _).trans mu_eq)))
    have hf39 : z35 225 74 = (z0 225 74) + 1 := ((congrFun (congrFun hq36 _) _).trans mu_eq)
    exact r_rz rfl (by omega) (po_I hs37 ⟨by decide, by decide⟩ ⟨rfl, by omega, by omega, (by exact RV_ex hz (fun i h1 h2 => hs37.2.2.1 _ _ (notS_c (by omega) (notS_c (by omega) (notS_c (by omega) (notS_c (by omega) (notS_n)))))) (fun a h1 h2 h3 => funext fun i => hs37.2.2.1 _ _ (notS_c (by omega) (notS_c (by omega) (notS_c (by omega) (notS_c (by omega) (notS_n)))))) (fun a h1 h2 => funext fun i => hs37.2.2.1 _ _ (notS_c (by omega) (notS_c (by omega) (notS_c (by omega) (notS_c (by omega) (notS_n)))))) (funext fun i => hs37.2.2.1 _ _ (notS_c (by omega) (notS_c (by omega) (notS_c (by omega) (notS_c (by omega) (notS_n)))))) (funext fun i => hs37.2.2.2 _ _ (notS_c (by omega) (notS_c (by omega) (notS_c (by omega) (notS_c (by omega) (notS_n)))))) (k := (z0 225 73 - 1).toNat) (by omega) (by omega) hex hrv)⟩)
  · skip
    refine r_c0 (pc' := 8) rfl rfl ?_
    have hb40 := rd_225_74 hz
    exact r_rz rfl (by omega) (po_I hst ⟨by decide, by decide⟩ ⟨rfl, by omega, by omega, (by exact hrv)⟩)
/-- LoopGroundModel redo -/
abbrev S_247v  : mS := [(271, 271, 0, 1097), (270, 270, 0, 17), (225, 225, 73, 73), (225, 225, 74, 74)]
abbrev E_247v  (z0 w0 : mZ) (x y tx it mt tt ct : Option Nat) : Int → mZ → mZ → mP → Prop := fun v z w p => p = (pq x y tx it mt tt ct) ∧ 0 ≤ v ∧ v ≤ 1 ∧ (RV z w)
theorem m_247v {d : Nat} {z0 w0 : mZ} {x y tx it mt tt ct : Option Nat}  (hz : rz z0) (hw : rw_ w0) (hrv : RV z0 w0) : wc (d + 2) 247 [.ref 225] (mk z0 w0 (pq x y tx it mt tt ct)) (poI S_247v z0 w0 (E_247v  z0 w0 x y tx it mt tt ct)) := by
  have hst : st_ S_247v z0 w0 z0 w0 := st_rf hz hw
  have hau := hrv.2.2.1.1
  have h73 := rd_225_73 hz
  have h74 := rd_225_74 hz
  refine w_m rfl rfl ?_
  refine r_ld (pc' := 1) rfl rfl rfl rfl ?_
  have hb21 := rd_225_74 hz
  refine r_gi (pc' := 4) rfl rfl sh_225 rfl rfl ?_
  refine r_zne (pc' := 7) rfl rfl ⟨by omega, by omega⟩ (fun hc22 => ?_) (fun hc22 => ?_)
  · skip
    refine r_ld (pc' := 10) rfl rfl rfl rfl ?_
    refine r_ld (pc' := 11) rfl rfl rfl rfl ?_
    have hb23 := rd_225_73 hz
    refine r_gi (pc' := 14) rfl rfl sh_225 rfl rfl ?_
    refine r_cVV (pc' := 17) rfl rfl rfl rfl rfl sh_225 (m_245v (d := d) (z0 225 73) hst.1 hst.2.1 ⟨by omega, by omega⟩) (fun z25 w26 p27 hs29 hE30 => ?_)
    have hs31 := st_tr hst hs29 (sub_B rfl)
    obtain ⟨rfl, hE30⟩ := hE30
    have hex := hE30
    refine r_ld (pc' := 18) rfl rfl rfl rfl ?_
    refine r_al (pc' := 19) rfl rfl rfl rfl ?_
    refine r_gi (pc' := 22) rfl rfl sh_225 rfl (hs29.2.2.1 _ _ (notS_c (by omega) (notS_c (by omega) notS_n))) ?_
    refine r_c0 (pc' := 23) rfl rfl ?_
    refine r_add (pc' := 24) rfl rfl ?_
    refine r_pi (pc' := 27) rfl rfl sh_225 rfl rfl hs31 (inS_s (inS_s (inS_0 (by omega) (by omega) (by omega) (by omega)))) (wr_225_73 ⟨by omega, by omega⟩) (fun z32 hq33 hs34 => ?_)
    refine r_ld (pc' := 28) rfl rfl rfl rfl ?_
    refine r_al (pc' := 29) rfl rfl rfl rfl ?_
    refine r_gi (pc' := 32) rfl rfl sh_225 rfl (((congrFun (congrFun hq33 _) _).trans (mu_ne (by omega))).trans (hs29.2.2.1 _ _ (notS_c (by omega) (notS_c (by omega) notS_n)))) ?_
    refine r_c0 (pc' := 33) rfl rfl ?_
    refine r_sub (pc' := 34) rfl rfl ?_
    refine r_pi (pc' := 37) rfl rfl sh_225 rfl rfl hs34 (inS_s (inS_s (inS_s (inS_0 (by omega) (by omega) (by omega) (by omega))))) (wr_225_74 ⟨by omega, by omega⟩) (fun z35 hq36 hs37 => ?_)
    refine r_c0 (pc' := 38) rfl rfl ?_
    have hf38 : z35 225 73 = (z0 225 73) + 1 := (((congrFun (congrFun hq36 _) _).trans (mu_ne (by omega))).trans ((congrFun (congrFun hq33 _) _).trans mu_eq))
    have hf39 : z35 225 74 = (z0 225 74) - 1 := ((congrFun (congrFun hq36 _) _).trans mu_eq)
    exact r_rz rfl (by omega) (po_I hs37 ⟨by decide, by decide⟩ ⟨rfl, by omega, by omega, (by exact RV_ex hz (fun i h1 h2 => hs37.2.2.1 _ _ (notS_c (by omega) (notS_c (by omega) (notS_c (by omega) (notS_c (by omega) (notS_n)))))) (fun a h1 h2 h3 => funext fun i => hs37.2.2.1 _ _ (notS_c (by omega) (notS_c (by omega) (notS_c (by omega) (notS_c (by omega) (notS_n)))))) (fun a h1 h2 => funext fun i => hs37.2.2.1 _ _ (notS_c (by omega) (notS_c (by omega) (notS_c (by omega) (notS_c (by omega) (notS_n)))))) (funext fun i => hs37.2.2.1 _ _ (notS_c (by omega) (notS_c (by omega) (notS_c (by omega) (notS_c (by omega) (notS_n)))))) (funext fun i => hs37.2.2.2 _ _ (notS_c (by omega) (notS_c (by omega) (notS_c (by omega) (notS_c (by omega) (notS_n)))))) (k := (z0 225 73).toNat) (by omega) (by omega) hex hrv)⟩)
  · skip
    refine r_c0 (pc' := 8) rfl rfl ?_
    have hb40 := rd_225_73 hz
    exact r_rz rfl (by omega) (po_I hst ⟨by decide, by decide⟩ ⟨rfl, by omega, by omega, (by exact hrv)⟩)
/-- LoopGroundModel image -/
abbrev S_255v  : mS := [(274, 274, 0, 2), (275, 275, 0, 53)]
abbrev E_255v (a1 : Int) (z0 w0 : mZ) (x y tx it mt tt ct : Option Nat) : Int → mZ → mZ → mP → Prop := fun v z w p => p = (pq x y tx it mt tt ct) ∧ (-9223372036854775808) ≤ v ∧ v ≤ 9223372036854775807 ∧ (RV z w)
theorem m_255v {d : Nat} {z0 w0 : mZ} {x y tx it mt tt ct : Option Nat} (a1 : Int) (hz : rz z0) (hw : rw_ w0) (ha1 : (-2147483648) ≤ a1 ∧ a1 ≤ 2147483647) (hrv : RV z0 w0) : wc (d + 4) 255 [.ref 225, .int (Int32.ofInt a1)] (mk z0 w0 (pq x y tx it mt tt ct)) (poL S_255v z0 w0 (E_255v a1 z0 w0 x y tx it mt tt ct)) := by
  have hst : st_ S_255v z0 w0 z0 w0 := st_rf hz hw
  have key : ∀ N : Nat, (∀ (x2 : Int) (z w : mZ), 0 ≤ x2 ∧ x2 ≤ 18 → 0 ≤ a1 ∧ a1 ≤ 2 → st_ S_255v z0 w0 z w → (0 ≤ a1 ∧ a1 ≤ 2) → (∀ e : Nat, (e : Int) < x2 → w 275 (18 * a1.toNat + e) = w0 270 e) → (∀ i : Nat, i < 18 * a1.toNat ∨ 18 * a1.toNat + 18 ≤ i → w 275 i = w0 275 i) → (∀ j : Nat, j ≠ a1.toNat → z 274 j = z0 274 j) → 32 * (18 - x2) + 19 < (N : Int) → wp_ (d + 3) 255 3 (some .long) (20, [(0, .ref 225), (1, .int (Int32.ofInt a1)), (2, .int (Int32.ofInt x2))], [], mk z w (pq x y tx it mt tt ct)) (poL S_255v z0 w0 (E_255v a1 z0 w0 x y tx it mt tt ct))) := by
    intro N
    induction N with
    | zero =>
      intro x2 z w
      intros; exfalso; omega
    | succ N ih =>
      have ih0 := ih; clear ih
      intro x2 z w  hx2 hpa1 hst as0 as1 as2 as3 hM
      refine r_ld (pc' := 21) rfl rfl rfl rfl ?_
      refine r_cb (pc' := 23) rfl (by decide) rfl ?_
      refine r_ige (pc' := 26) rfl rfl ⟨by omega, by omega⟩ ⟨by decide, by decide⟩ (fun hc26 => ?_) (fun hc26 => ?_)
      · skip
        refine r_ld (pc' := 50) rfl rfl rfl rfl ?_
        refine r_cVL (pc' := 53) rfl rfl rfl rfl rfl sh_225 (m_239 (d := d)  hst.1 hst.2.1 ) (fun v27 z28 w29 p30 h31 hs32 hE33 => ?_)
        obtain ⟨rfl, rfl, rfl, hE33⟩ := hE33
        exact r_rl rfl (po_L hst ⟨by omega, by omega⟩ ⟨rfl, by omega, by omega, (by exact RV_im hz (fun i h1 h2 => hst.2.2.1 _ _ (notS_c (by omega) (notS_c (by omega) (notS_n)))) (fun a h1 h2 h3 => funext fun i => hst.2.2.1 _ _ (notS_c (by omega) (notS_c (by omega) (notS_n)))) (fun a h1 h2 => funext fun i => hst.2.2.1 _ _ (notS_c (by omega) (notS_c (by omega) (notS_n)))) (hst.2.2.1 _ _ (notS_c (by omega) (notS_c (by omega) (notS_n)))) (hst.2.2.1 _ _ (notS_c (by omega) (notS_c (by omega) (notS_n)))) (funext fun i => hst.2.2.2 _ _ (notS_c (by omega) (notS_c (by omega) (notS_n)))) (funext fun i => hst.2.2.2 _ _ (notS_c (by omega) (notS_c (by omega) (notS_n)))) (fun e he => as1 e (by omega)) as2 as3 hrv)⟩)
      · skip
        refine r_ld (pc' := 27) rfl rfl rfl rfl ?_
        refine r_gr (b := 275) (pc' := 30) rfl rfl sh_225 rfl pp_225_80 ?_
        refine r_cb (pc' := 32) rfl (by decide) rfl ?_
        refine r_ld (pc' := 33) rfl rfl rfl rfl ?_
        refine r_mul (pc' := 34) rfl rfl ?_
        refine r_ld (pc' := 35) rfl rfl rfl rfl ?_
        refine r_add (pc' := 36) rfl rfl ?_
        refine r_ld (pc' := 37) rfl rfl rfl rfl ?_
        refine r_gr (b := 270) (pc' := 40) rfl rfl sh_225 rfl pp_225_71 ?_
        refine r_ld (pc' := 41) rfl rfl rfl rfl ?_
        have hb35 := rd_270 hw (i := x2.toNat) (by omega)
        refine r_la (pc' := 42) rfl rfl sh_270 rfl (by omega) (by omega) (hst.2.2.2 _ _ (notS_c (by omega) (notS_c (by omega) notS_n))) ?_
        refine r_ls (pc' := 43) rfl rfl sh_275 rfl (by omega) (by omega) hst (inS_s (inS_0 (by omega) (by omega) (by omega) (by omega))) (wr_275 ⟨by omega, by omega⟩) (fun w36 hq37 hs38 => ?_)
        have hqa := hq37
        refine r_inc (pc' := 46) (lv' := [(0, _), (1, _)]) rfl rfl rfl rfl rfl ?_
        refine r_go rfl ?_
        exact w_lv (sub_c rfl (sub_c rfl (sub_c rfl sub_n))) rfl (ih0 (x2 + 1) z w36 ⟨by omega, by omega⟩ ⟨by omega, by omega⟩ hs38 (by first | omega | assumption) (by first | (intro e he; exfalso; omega) | (intro e he; rw [hqa]; by_cases c : e = x2.toNat; (subst c; exact mu_eqi (by omega)); (rw [mu_ne (by omega)]; exact as1 e (by omega)))) (by first | (intro i hi; rfl) | (intro i hi; rw [hqa, mu_ne (by omega)]; exact as2 i hi)) (by first | exact as3 | (intro j hj; rw [hqb]; exact mu_ne (by omega))) (by omega))
  refine w_m rfl rfl ?_
  refine r_ld (pc' := 1) rfl rfl rfl rfl ?_
  refine r_cSI (pc' := 4) rfl rfl rfl rfl rfl (m_254 (d := d + 2) a1 hst.1 hst.2.1 ⟨by omega, by omega⟩) (fun v39 z40 w41 p42 h43 hs44 hE45 => ?_)
  obtain ⟨rfl, rfl, rfl, hE45⟩ := hE45
  refine r_zne (pc' := 7) rfl rfl ⟨by omega, by omega⟩ (fun hc47 => ?_) (fun hc47 => ?_)
  · skip
    refine r_ld (pc' := 12) rfl rfl rfl rfl ?_
    refine r_gr (b := 274) (pc' := 15) rfl rfl sh_225 rfl pp_225_79 ?_
    refine r_ld (pc' := 16) rfl rfl rfl rfl ?_
    refine r_c0 (pc' := 17) rfl rfl ?_
    refine r_zs (pc' := 18) rfl rfl sh_274 rfl (by omega) (by omega) (by omega) hst (inS_0 (by omega) (by omega) (by omega) (by omega)) (wr_274 ⟨by omega, by omega⟩) (fun z48 hq49 hs50 => ?_)
    have hqb := hq49
    refine r_c0 (pc' := 19) rfl rfl ?_
    refine r_st (pc' := 20) (lv' := [(2, _), (0, _), (1, _)]) rfl rfl rfl rfl ?_
    exact w_lv (sub_c rfl (sub_c rfl (sub_c rfl sub_n))) rfl ((key ((32 * (18 - 0) + 19 : Int).toNat + 1)) 0 z48 w0 ⟨by omega, by omega⟩ ⟨by omega, by omega⟩ hs50 (by first | omega | assumption) (by first | (intro e he; exfalso; omega) | (intro e he; rw [hqa]; by_cases c : e = x2.toNat; (subst c; exact mu_eqi (by omega)); (rw [mu_ne (by omega)]; exact as1 e (by omega)))) (by first | (intro i hi; rfl) | (intro i hi; rw [hqa, mu_ne (by omega)]; exact as2 i hi)) (by first | exact as3 | (intro j hj; rw [hqb]; exact mu_ne (by omega))) (by omega))
  · skip
    refine r_al (pc' := 10) rfl rfl rfl rfl ?_
    exact r_rl rfl (po_L hst ⟨by decide, by decide⟩ ⟨rfl, by omega, by omega, (by exact hrv)⟩)
/-- LoopGroundModel back -/
abbrev S_256v  : mS := [(225, 225, 73, 73), (225, 225, 74, 74), (270, 270, 0, 17)]
abbrev E_256v (a1 : Int) (z0 w0 : mZ) (x y tx it mt tt ct : Option Nat) : Int → mZ → mZ → mP → Prop := fun v z w p => p = (pq x y tx it mt tt ct) ∧ (-9223372036854775808) ≤ v ∧ v ≤ 9223372036854775807 ∧ (RV z w)
theorem m_256v {d : Nat} {z0 w0 : mZ} {x y tx it mt tt ct : Option Nat} (a1 : Int) (hz : rz z0) (hw : rw_ w0) (ha1 : (-2147483648) ≤ a1 ∧ a1 ≤ 2147483647) (hrv : RV z0 w0) : wc (d + 4) 256 [.ref 225, .int (Int32.ofInt a1)] (mk z0 w0 (pq x y tx it mt tt ct)) (poL S_256v z0 w0 (E_256v a1 z0 w0 x y tx it mt tt ct)) := by
  have hst : st_ S_256v z0 w0 z0 w0 := st_rf hz hw
  have key : ∀ N : Nat, (∀ (x2 : Int) (z w : mZ), 0 ≤ x2 ∧ x2 ≤ 18 → 0 ≤ a1 ∧ a1 ≤ 2 → st_ S_256v z0 w0 z w → z 225 73 = z0 225 73 → z 225 74 = z0 225 74 → (0 ≤ a1 ∧ a1 ≤ 2) → (z0 274 a1.toNat = 1) → (∀ e : Nat, (e : Int) < x2 → w 270 e = w0 275 (18 * a1.toNat + e)) → 38 * (18 - x2) + 27 < (N : Int) → wp_ (d + 3) 256 3 (some .long) (22, [(0, .ref 225), (1, .int (Int32.ofInt a1)), (2, .int (Int32.ofInt x2))], [], mk z w (pq x y tx it mt tt ct)) (poL S_256v z0 w0 (E_256v a1 z0 w0 x y tx it mt tt ct))) := by
    intro N
    induction N with
    | zero =>
      intro x2 z w
      intros; exfalso; omega
    | succ N ih =>
      have ih0 := ih; clear ih
      intro x2 z w  hx2 hpa1 hst un_z_225_73 un_z_225_74 as0 as3 as1 hM
      refine r_ld (pc' := 23) rfl rfl rfl rfl ?_
      refine r_cb (pc' := 25) rfl (by decide) rfl ?_
      refine r_ige (pc' := 28) rfl rfl ⟨by omega, by omega⟩ ⟨by decide, by decide⟩ (fun hc37 => ?_) (fun hc37 => ?_)
      · skip
        refine r_ld (pc' := 52) rfl rfl rfl rfl ?_
        refine r_c0 (pc' := 53) rfl rfl ?_
        refine r_pi (pc' := 56) rfl rfl sh_225 rfl rfl hst (inS_0 (by omega) (by omega) (by omega) (by omega)) (wr_225_73 ⟨by omega, by omega⟩) (fun z38 hq39 hs40 => ?_)
        refine r_ld (pc' := 57) rfl rfl rfl rfl ?_
        refine r_c0 (pc' := 58) rfl rfl ?_
        refine r_pi (pc' := 61) rfl rfl sh_225 rfl rfl hs40 (inS_s (inS_0 (by omega) (by omega) (by omega) (by omega))) (wr_225_74 ⟨by omega, by omega⟩) (fun z41 hq42 hs43 => ?_)
        refine r_ld (pc' := 62) rfl rfl rfl rfl ?_
        refine r_cVL (pc' := 65) rfl rfl rfl rfl rfl sh_225 (m_239 (d := d)  hs43.1 hs43.2.1 ) (fun v44 z45 w46 p47 h48 hs49 hE50 => ?_)
        obtain ⟨rfl, rfl, rfl, hE50⟩ := hE50
        have hf52 : z41 225 73 = 0 := (((congrFun (congrFun hq42 _) _).trans (mu_ne (by omega))).trans ((congrFun (congrFun hq39 _) _).trans mu_eq))
        have hf53 : z41 225 74 = 0 := ((congrFun (congrFun hq42 _) _).trans mu_eq)
        exact r_rl rfl (po_L hs43 ⟨by omega, by omega⟩ ⟨rfl, by omega, by omega, (by exact RV_bk hz (fun i h1 h2 => hs43.2.2.1 _ _ (notS_c (by omega) (notS_c (by omega) (notS_c (by omega) (notS_n))))) (fun a h1 h2 h3 => funext fun i => hs43.2.2.1 _ _ (notS_c (by omega) (notS_c (by omega) (notS_c (by omega) (notS_n))))) (fun a h1 h2 => funext fun i => hs43.2.2.1 _ _ (notS_c (by omega) (notS_c (by omega) (notS_c (by omega) (notS_n))))) (funext fun i => hs43.2.2.1 _ _ (notS_c (by omega) (notS_c (by omega) (notS_c (by omega) (notS_n))))) (funext fun i => hs43.2.2.2 _ _ (notS_c (by omega) (notS_c (by omega) (notS_c (by omega) (notS_n))))) (k := a1.toNat) (by omega) as3 (by omega) (fun e he => as1 e (by omega)) hrv)⟩)
      · skip
        refine r_ld (pc' := 29) rfl rfl rfl rfl ?_
        refine r_gr (b := 270) (pc' := 32) rfl rfl sh_225 rfl pp_225_71 ?_
        refine r_ld (pc' := 33) rfl rfl rfl rfl ?_
        refine r_ld (pc' := 34) rfl rfl rfl rfl ?_
        refine r_gr (b := 275) (pc' := 37) rfl rfl sh_225 rfl pp_225_80 ?_
        refine r_cb (pc' := 39) rfl (by decide) rfl ?_
        refine r_ld (pc' := 40) rfl rfl rfl rfl ?_
        refine r_mul (pc' := 41) rfl rfl ?_
        refine r_ld (pc' := 42) rfl rfl rfl rfl ?_
        refine r_add (pc' := 43) rfl rfl ?_
        have hb54 := rd_275 hw (i := ((18 * a1) + x2).toNat) (by omega)
        refine r_la (pc' := 44) rfl rfl sh_275 rfl (by omega) (by omega) (hst.2.2.2 _ _ (notS_c (by omega) (notS_c (by omega) (notS_c (by omega) notS_n)))) ?_
        refine r_ls (pc' := 45) rfl rfl sh_270 rfl (by omega) (by omega) hst (inS_s (inS_s (inS_0 (by omega) (by omega) (by omega) (by omega)))) (wr_270 ⟨by omega, by omega⟩) (fun w55 hq56 hs57 => ?_)
        have hqa := hq56
        refine r_inc (pc' := 48) (lv' := [(0, _), (1, _)]) rfl rfl rfl rfl rfl ?_
        refine r_go rfl ?_
        have hb58 := rd_225_73 hz
        have hb59 := rd_225_74 hz
        exact w_lv (sub_c rfl (sub_c rfl (sub_c rfl sub_n))) rfl (ih0 (x2 + 1) z w55 ⟨by omega, by omega⟩ ⟨by omega, by omega⟩ hs57 (un_z_225_73) (un_z_225_74) (by first | omega | assumption) (by first | omega | assumption) (by first | (intro e he; exfalso; omega) | (intro e he; rw [hqa]; by_cases c : e = x2.toNat; (subst c; rw [mu_eq, show (18 * a1 + x2).toNat = 18 * a1.toNat + x2.toNat by omega]); (rw [mu_ne (by omega)]; exact as1 e (by omega)))) (by omega))
  refine w_m rfl rfl ?_
  refine r_ld (pc' := 1) rfl rfl rfl rfl ?_
  refine r_cSI (pc' := 4) rfl rfl rfl rfl rfl (m_254 (d := d + 2) a1 hst.1 hst.2.1 ⟨by omega, by omega⟩) (fun v60 z61 w62 p63 h64 hs65 hE66 => ?_)
  obtain ⟨rfl, rfl, rfl, hE66⟩ := hE66
  refine r_zeq (pc' := 7) rfl rfl ⟨by omega, by omega⟩ (fun hc68 => ?_) (fun hc68 => ?_)
  · skip
    refine r_al (pc' := 19) rfl rfl rfl rfl ?_
    have hb69 := rd_225_73 hz
    have hb70 := rd_225_74 hz
    exact r_rl rfl (po_L hst ⟨by decide, by decide⟩ ⟨rfl, by omega, by omega, (by exact hrv)⟩)
  · skip
    refine r_ld (pc' := 8) rfl rfl rfl rfl ?_
    refine r_gr (b := 274) (pc' := 11) rfl rfl sh_225 rfl pp_225_79 ?_
    refine r_ld (pc' := 12) rfl rfl rfl rfl ?_
    have hb71 := rd_274 hz (i := a1.toNat) (by omega)
    refine r_ba (pc' := 13) rfl rfl sh_274 (Or.inr rfl) rfl (by omega) (by omega) rfl ?_
    refine r_zne (pc' := 16) rfl rfl ⟨by omega, by omega⟩ (fun hc72 => ?_) (fun hc72 => ?_)
    · skip
      refine r_c0 (pc' := 21) rfl rfl ?_
      refine r_st (pc' := 22) (lv' := [(2, _), (0, _), (1, _)]) rfl rfl rfl rfl ?_
      have hb73 := rd_225_73 hz
      have hb74 := rd_225_74 hz
      exact w_lv (sub_c rfl (sub_c rfl (sub_c rfl sub_n))) rfl ((key ((38 * (18 - 0) + 27 : Int).toNat + 1)) 0 z0 w0 ⟨by omega, by omega⟩ ⟨by omega, by omega⟩ hst (rfl) (rfl) (by first | omega | assumption) (by first | omega | assumption) (by first | (intro e he; exfalso; omega) | (intro e he; rw [hqa]; by_cases c : e = x2.toNat; (subst c; rw [mu_eq, show (18 * a1 + x2).toNat = 18 * a1.toNat + x2.toNat by omega]); (rw [mu_ne (by omega)]; exact as1 e (by omega)))) (by omega))
    · skip
      refine r_al (pc' := 19) rfl rfl rfl rfl ?_
      have hb75 := rd_225_73 hz
      have hb76 := rd_225_74 hz
      exact r_rl rfl (po_L hst ⟨by decide, by decide⟩ ⟨rfl, by omega, by omega, (by exact hrv)⟩)
