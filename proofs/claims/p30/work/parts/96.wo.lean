/-! methods, printed by wip/tools/vcg.py -/
/-- LoopGroundModel isFairWord -/
abbrev S_218x  : mS := []
abbrev E_218x (a1 : Int) (z0 w0 : mZ) (x y tx it mt tt ct : Option Nat) : Int → mZ → mZ → mP → Prop := fun v z w p => p = (pq x y tx it mt tt ct) ∧ z0 = z ∧ w0 = w ∧ 0 ≤ v ∧ v ≤ 1 ∧ ((v = 1 → 0 ≤ a1 ∧ a1 < z0 225 28 ∧ FWr z0 a1.toNat) ∧ (v = 0 → ¬ (0 ≤ a1 ∧ a1 < z0 225 28 ∧ FWr z0 a1.toNat)))
theorem m_218x {d : Nat} {z0 w0 : mZ} {x y tx it mt tt ct : Option Nat} (a1 : Int) (hz : rz z0) (hw : rw_ w0) (ha1 : (-2147483648) ≤ a1 ∧ a1 ≤ 2147483647) (hwd : WDr z0) : wc (d + 2) 218 [.ref 225, .int (Int32.ofInt a1)] (mk z0 w0 (pq x y tx it mt tt ct)) (poI S_218x z0 w0 (E_218x a1 z0 w0 x y tx it mt tt ct)) := by
  have hst : st_ S_218x z0 w0 z0 w0 := st_rf hz hw
  have hz15 := rd_225_28 hz
  have key : ∀ N : Nat, (∀ (x2 x3 : Int) , 0 ≤ x2 ∧ x2 ≤ 1 → 0 ≤ x3 ∧ x3 ≤ 8 → (x2 = 1 → 0 ≤ a1 ∧ a1 < z0 225 28) → (x2 = 1 → ∀ i : Nat, (i : Int) < x3 → z0 254 (z0 237 (8 * a1.toNat + i)).toNat = 1) → (x2 = 1 → x3 = 0 ∨ x3 ≤ z0 239 a1.toNat) → (x2 = 0 → ¬ (0 ≤ a1 ∧ a1 < z0 225 28 ∧ FWr z0 a1.toNat)) → 30 * (8 - x3) + 23 < (N : Int) → wp_ (d + 1) 218 4 (some .boolean) (8, [(0, .ref 225), (1, .int (Int32.ofInt a1)), (2, .int (Int32.ofInt x2)), (3, .int (Int32.ofInt x3))], [], mk z0 w0 (pq x y tx it mt tt ct)) (poI S_218x z0 w0 (E_218x a1 z0 w0 x y tx it mt tt ct))) := by
    intro N
    induction N with
    | zero =>
      intro x2 x3 
      intros; exfalso; omega
    | succ N ih =>
      have ih0 := ih; clear ih
      intro x2 x3  hx2 hx3 as1 as2 as3 as4 hM
      refine r_ld (pc' := 9) rfl rfl rfl rfl ?_
      refine r_zeq (pc' := 12) rfl rfl ⟨by omega, by omega⟩ (fun hc16 => ?_) (fun hc16 => ?_)
      · skip
        refine r_ld (pc' := 46) rfl rfl rfl rfl ?_
        exact r_rz rfl (by omega) (po_I hst ⟨by omega, by omega⟩ ⟨rfl, rfl, rfl, by omega, by omega, (by refine ⟨?_, as4⟩; intro hq; exact ⟨(as1 (by omega)).1, (as1 (by omega)).2, fun i hi => ⟨hwd a1.toNat (by have := as1 (by omega); omega) i hi, as2 (by omega) i (by omega)⟩⟩)⟩)
      · skip
        have hfa := as1 (by omega)
        refine r_ld (pc' := 13) rfl rfl rfl rfl ?_
        refine r_ld (pc' := 14) rfl rfl rfl rfl ?_
        refine r_gr (b := 239) (pc' := 17) rfl rfl sh_225 rfl pp_225_22 ?_
        refine r_ld (pc' := 18) rfl rfl rfl rfl ?_
        have hb17 := rd_239 hz (i := a1.toNat) (by omega)
        refine r_ia (pc' := 19) rfl rfl sh_239 rfl (by omega) (by omega) rfl ?_
        refine r_ige (pc' := 22) rfl rfl ⟨by omega, by omega⟩ ⟨by omega, by omega⟩ (fun hc18 => ?_) (fun hc18 => ?_)
        · skip
          refine r_ld (pc' := 46) rfl rfl rfl rfl ?_
          exact r_rz rfl (by omega) (po_I hst ⟨by omega, by omega⟩ ⟨rfl, rfl, rfl, by omega, by omega, (by refine ⟨?_, as4⟩; intro hq; exact ⟨(as1 (by omega)).1, (as1 (by omega)).2, fun i hi => ⟨hwd a1.toNat (by have := as1 (by omega); omega) i hi, as2 (by omega) i (by omega)⟩⟩)⟩)
        · skip
          refine r_ld (pc' := 23) rfl rfl rfl rfl ?_
          refine r_gr (b := 254) (pc' := 26) rfl rfl sh_225 rfl pp_225_50 ?_
          refine r_ld (pc' := 27) rfl rfl rfl rfl ?_
          refine r_gr (b := 237) (pc' := 30) rfl rfl sh_225 rfl pp_225_20 ?_
          refine r_cb (pc' := 32) rfl (by decide) rfl ?_
          refine r_ld (pc' := 33) rfl rfl rfl rfl ?_
          refine r_mul (pc' := 34) rfl rfl ?_
          refine r_ld (pc' := 35) rfl rfl rfl rfl ?_
          refine r_add (pc' := 36) rfl rfl ?_
          have hb19 := rd_237 hz (i := ((8 * a1) + x3).toNat) (by omega)
          refine r_ia (pc' := 37) rfl rfl sh_237 rfl (by omega) (by omega) rfl ?_
          have hb20 := rd_254 hz (i := (z0 237 ((8 * a1) + x3).toNat).toNat) (by omega)
          refine r_ba (pc' := 38) rfl rfl sh_254 (Or.inr rfl) rfl (by omega) (by omega) rfl ?_
          refine r_st (pc' := 39) (lv' := [(2, _), (0, _), (1, _), (3, _)]) rfl rfl rfl rfl ?_
          refine r_inc (pc' := 42) (lv' := [(2, _), (0, _), (1, _)]) rfl rfl rfl rfl rfl ?_
          refine r_go rfl ?_
          exact w_lv (sub_c rfl (sub_c rfl (sub_c rfl (sub_c rfl sub_n)))) rfl (ih0 (z0 254 (z0 237 ((8 * a1) + x3).toNat).toNat) (x3 + 1) ⟨by omega, by omega⟩ ⟨by omega, by omega⟩ (by first | omega | assumption) (by first | (intro _ i hi; exfalso; omega) | (intro hq i hi; by_cases c : (i : Int) = x3; (rw [show 8 * a1.toNat + i = (8 * a1 + x3).toNat by omega]; omega); exact as2 (by omega) i (by omega))) (by first | omega | assumption) (by first | (intro h q; have q1 := q.1; have q2 := q.2.1; omega) | (intro h q; have q3 := (q.2.2 x3.toNat (by omega)).2; rw [show 8 * a1.toNat + x3.toNat = (8 * a1 + x3).toNat by omega] at q3; omega)) (by omega))
  refine w_m rfl rfl ?_
  refine r_ld (pc' := 1) rfl rfl rfl rfl ?_
  refine r_ld (pc' := 2) rfl rfl rfl rfl ?_
  have hb21 := rd_225_28 hz
  refine r_cVI (pc' := 5) rfl rfl rfl rfl rfl sh_225 (m_174 (d := d) a1 hst.1 hst.2.1 ⟨by omega, by omega⟩) (fun v22 z23 w24 p25 h26 hs27 hE28 => ?_)
  obtain ⟨rfl, rfl, rfl, hE28⟩ := hE28
  refine r_st (pc' := 6) (lv' := [(2, _), (0, _), (1, _)]) rfl rfl rfl rfl ?_
  refine r_c0 (pc' := 7) rfl rfl ?_
  refine r_st (pc' := 8) (lv' := [(3, _), (2, _), (0, _), (1, _)]) rfl rfl rfl rfl ?_
  exact w_lv (sub_c rfl (sub_c rfl (sub_c rfl (sub_c rfl sub_n)))) rfl ((key ((30 * (8 - 0) + 23 : Int).toNat + 1)) v22 0 ⟨by omega, by omega⟩ ⟨by omega, by omega⟩ (by first | omega | assumption) (by first | (intro _ i hi; exfalso; omega) | (intro hq i hi; by_cases c : (i : Int) = x3; (rw [show 8 * a1.toNat + i = (8 * a1 + x3).toNat by omega]; omega); exact as2 (by omega) i (by omega))) (by first | omega | assumption) (by first | (intro h q; have q1 := q.1; have q2 := q.2.1; omega) | (intro h q; have q3 := (q.2.2 x3.toNat (by omega)).2; rw [show 8 * a1.toNat + x3.toNat = (8 * a1 + x3).toNat by omega] at q3; omega)) (by omega))
/-- LoopGroundModel undo -/
abbrev S_246x  : mS := [(225, 225, 73, 73), (271, 271, 0, 1097), (270, 270, 0, 17), (225, 225, 74, 74)]
abbrev E_246x  (z0 w0 : mZ) (x y tx it mt tt ct : Option Nat) : Int → mZ → mZ → mP → Prop := fun v z w p => p = (pq x y tx it mt tt ct) ∧ 0 ≤ v ∧ v ≤ 1 ∧ (RV z w ∧ RUD z0 w0 z w v)
theorem m_246x {d : Nat} {z0 w0 : mZ} {x y tx it mt tt ct : Option Nat}  (hz : rz z0) (hw : rw_ w0) (hrv : RV z0 w0) : wc (d + 2) 246 [.ref 225] (mk z0 w0 (pq x y tx it mt tt ct)) (poI S_246x z0 w0 (E_246x  z0 w0 x y tx it mt tt ct)) := by
  have hst : st_ S_246x z0 w0 z0 w0 := st_rf hz hw
  have hau := hrv.2.2.1.1
  have h73 := rd_225_73 hz
  have h74 := rd_225_74 hz
  refine w_m rfl rfl ?_
  refine r_ld (pc' := 1) rfl rfl rfl rfl ?_
  have hb21 := rd_225_73 hz
  refine r_gi (pc' := 4) rfl rfl sh_225 rfl rfl ?_
  refine r_zne (pc' := 7) rfl rfl ⟨by omega, by omega⟩ (fun hc22 => ?_) (fun hc22 => ?_)
  · skip
    refine r_ld (pc' := 10) rfl rfl rfl rfl ?_
    refine r_al (pc' := 11) rfl rfl rfl rfl ?_
    refine r_gi (pc' := 14) rfl rfl sh_225 rfl rfl ?_
    refine r_c0 (pc' := 15) rfl rfl ?_
    refine r_sub (pc' := 16) rfl rfl ?_
    refine r_pi (pc' := 19) rfl rfl sh_225 rfl rfl hst (inS_0 (by omega) (by omega) (by omega) (by omega)) (wr_225_73 ⟨by omega, by omega⟩) (fun z23 hq24 hs25 => ?_)
    refine r_ld (pc' := 20) rfl rfl rfl rfl ?_
    refine r_ld (pc' := 21) rfl rfl rfl rfl ?_
    refine r_gi (pc' := 24) rfl rfl sh_225 rfl ((congrFun (congrFun hq24 _) _).trans mu_eq) ?_
    refine r_cVV (pc' := 27) rfl rfl rfl rfl rfl sh_225 (m_245v (d := d) ((z0 225 73) - 1) hs25.1 hs25.2.1 ⟨by omega, by omega⟩) (fun z27 w28 p29 hs31 hE32 => ?_)
    have hs33 := st_tr hs25 hs31 (sub_B rfl)
    obtain ⟨rfl, hE32⟩ := hE32
    have hex := hE32
    refine r_ld (pc' := 28) rfl rfl rfl rfl ?_
    refine r_al (pc' := 29) rfl rfl rfl rfl ?_
    have hb34 := rd_225_74 hz
    refine r_gi (pc' := 32) rfl rfl sh_225 rfl ((hs31.2.2.1 _ _ (notS_c (by omega) (notS_c (by omega) notS_n))).trans ((congrFun (congrFun hq24 _) _).trans (mu_ne (by omega)))) ?_
    refine r_c0 (pc' := 33) rfl rfl ?_
    refine r_add (pc' := 34) rfl rfl ?_
    refine r_pi (pc' := 37) rfl rfl sh_225 rfl rfl hs33 (inS_s (inS_s (inS_s (inS_0 (by omega) (by omega) (by omega) (by omega))))) (wr_225_74 ⟨by omega, by omega⟩) (fun z35 hq36 hs37 => ?_)
    refine r_c0 (pc' := 38) rfl rfl ?_
    have hf38 : z35 225 73 = (z0 225 73) - 1 := (((congrFun (congrFun hq36 _) _).trans (mu_ne (by omega))).trans ((hs31.2.2.1 _ _ (notS_c (by omega) (notS_c (by omega) notS_n))).trans ((congrFun (congrFun hq24 _) _).trans mu_eq)))
    have hf39 : z35 225 74 = (z0 225 74) + 1 := ((congrFun (congrFun hq36 _) _).trans mu_eq)
    exact r_rz rfl (by omega) (po_I hs37 ⟨by decide, by decide⟩ ⟨rfl, by omega, by omega, (by refine ⟨?_, Or.inr ⟨by omega, rfl, by omega, by omega, hex⟩⟩; (exact RV_ex hz (fun i h1 h2 => hs37.2.2.1 _ _ (notS_c (by omega) (notS_c (by omega) (notS_c (by omega) (notS_c (by omega) (notS_n)))))) (fun a h1 h2 h3 => funext fun i => hs37.2.2.1 _ _ (notS_c (by omega) (notS_c (by omega) (notS_c (by omega) (notS_c (by omega) (notS_n)))))) (fun a h1 h2 => funext fun i => hs37.2.2.1 _ _ (notS_c (by omega) (notS_c (by omega) (notS_c (by omega) (notS_c (by omega) (notS_n)))))) (funext fun i => hs37.2.2.1 _ _ (notS_c (by omega) (notS_c (by omega) (notS_c (by omega) (notS_c (by omega) (notS_n)))))) (funext fun i => hs37.2.2.2 _ _ (notS_c (by omega) (notS_c (by omega) (notS_c (by omega) (notS_c (by omega) (notS_n)))))) (k := (z0 225 73 - 1).toNat) (by omega) (by omega) hex hrv))⟩)
  · skip
    refine r_c0 (pc' := 8) rfl rfl ?_
    have hb40 := rd_225_74 hz
    exact r_rz rfl (by omega) (po_I hst ⟨by decide, by decide⟩ ⟨rfl, by omega, by omega, (by exact ⟨hrv, Or.inl ⟨by omega, rfl, RU3_r⟩⟩)⟩)
/-- LoopGroundModel redo -/
abbrev S_247x  : mS := [(271, 271, 0, 1097), (270, 270, 0, 17), (225, 225, 73, 73), (225, 225, 74, 74)]
abbrev E_247x  (z0 w0 : mZ) (x y tx it mt tt ct : Option Nat) : Int → mZ → mZ → mP → Prop := fun v z w p => p = (pq x y tx it mt tt ct) ∧ 0 ≤ v ∧ v ≤ 1 ∧ (RV z w ∧ RRD z0 w0 z w v)
theorem m_247x {d : Nat} {z0 w0 : mZ} {x y tx it mt tt ct : Option Nat}  (hz : rz z0) (hw : rw_ w0) (hrv : RV z0 w0) : wc (d + 2) 247 [.ref 225] (mk z0 w0 (pq x y tx it mt tt ct)) (poI S_247x z0 w0 (E_247x  z0 w0 x y tx it mt tt ct)) := by
  have hst : st_ S_247x z0 w0 z0 w0 := st_rf hz hw
  have hau := hrv.2.2.1.1
  have h73 := rd_225_73 hz
  have h74 := rd_225_74 hz
  refine w_m rfl rfl ?_
  refine r_ld (pc' := 1) rfl rfl rfl rfl ?_
  have hb21 := rd_225_74 hz
  refine r_gi (pc' := 4) rfl rfl sh_225 rfl rfl ?_
  refine r_zne (pc' := 7) rfl rfl ⟨by omega, by omega⟩ (fun hc22 => ?_) (fun hc22 => ?_)
  · skip
    refine r_ld (pc' := 10) rfl rfl rfl rfl ?_
    refine r_ld (pc' := 11) rfl rfl rfl rfl ?_
    have hb23 := rd_225_73 hz
    refine r_gi (pc' := 14) rfl rfl sh_225 rfl rfl ?_
    refine r_cVV (pc' := 17) rfl rfl rfl rfl rfl sh_225 (m_245v (d := d) (z0 225 73) hst.1 hst.2.1 ⟨by omega, by omega⟩) (fun z25 w26 p27 hs29 hE30 => ?_)
    have hs31 := st_tr hst hs29 (sub_B rfl)
    obtain ⟨rfl, hE30⟩ := hE30
    have hex := hE30
    refine r_ld (pc' := 18) rfl rfl rfl rfl ?_
    refine r_al (pc' := 19) rfl rfl rfl rfl ?_
    refine r_gi (pc' := 22) rfl rfl sh_225 rfl (hs29.2.2.1 _ _ (notS_c (by omega) (notS_c (by omega) notS_n))) ?_
    refine r_c0 (pc' := 23) rfl rfl ?_
    refine r_add (pc' := 24) rfl rfl ?_
    refine r_pi (pc' := 27) rfl rfl sh_225 rfl rfl hs31 (inS_s (inS_s (inS_0 (by omega) (by omega) (by omega) (by omega)))) (wr_225_73 ⟨by omega, by omega⟩) (fun z32 hq33 hs34 => ?_)
    refine r_ld (pc' := 28) rfl rfl rfl rfl ?_
    refine r_al (pc' := 29) rfl rfl rfl rfl ?_
    refine r_gi (pc' := 32) rfl rfl sh_225 rfl (((congrFun (congrFun hq33 _) _).trans (mu_ne (by omega))).trans (hs29.2.2.1 _ _ (notS_c (by omega) (notS_c (by omega) notS_n)))) ?_
    refine r_c0 (pc' := 33) rfl rfl ?_
    refine r_sub (pc' := 34) rfl rfl ?_
    refine r_pi (pc' := 37) rfl rfl sh_225 rfl rfl hs34 (inS_s (inS_s (inS_s (inS_0 (by omega) (by omega) (by omega) (by omega))))) (wr_225_74 ⟨by omega, by omega⟩) (fun z35 hq36 hs37 => ?_)
    refine r_c0 (pc' := 38) rfl rfl ?_
    have hf38 : z35 225 73 = (z0 225 73) + 1 := (((congrFun (congrFun hq36 _) _).trans (mu_ne (by omega))).trans ((congrFun (congrFun hq33 _) _).trans mu_eq))
    have hf39 : z35 225 74 = (z0 225 74) - 1 := ((congrFun (congrFun hq36 _) _).trans mu_eq)
    exact r_rz rfl (by omega) (po_I hs37 ⟨by decide, by decide⟩ ⟨rfl, by omega, by omega, (by refine ⟨?_, Or.inr ⟨by omega, rfl, by omega, by omega, hex⟩⟩; (exact RV_ex hz (fun i h1 h2 => hs37.2.2.1 _ _ (notS_c (by omega) (notS_c (by omega) (notS_c (by omega) (notS_c (by omega) (notS_n)))))) (fun a h1 h2 h3 => funext fun i => hs37.2.2.1 _ _ (notS_c (by omega) (notS_c (by omega) (notS_c (by omega) (notS_c (by omega) (notS_n)))))) (fun a h1 h2 => funext fun i => hs37.2.2.1 _ _ (notS_c (by omega) (notS_c (by omega) (notS_c (by omega) (notS_c (by omega) (notS_n)))))) (funext fun i => hs37.2.2.1 _ _ (notS_c (by omega) (notS_c (by omega) (notS_c (by omega) (notS_c (by omega) (notS_n)))))) (funext fun i => hs37.2.2.2 _ _ (notS_c (by omega) (notS_c (by omega) (notS_c (by omega) (notS_c (by omega) (notS_n)))))) (k := (z0 225 73).toNat) (by omega) (by omega) hex hrv))⟩)
  · skip
    refine r_c0 (pc' := 8) rfl rfl ?_
    have hb40 := rd_225_73 hz
    exact r_rz rfl (by omega) (po_I hst ⟨by decide, by decide⟩ ⟨rfl, by omega, by omega, (by exact ⟨hrv, Or.inl ⟨by omega, rfl, RU3_r⟩⟩)⟩)
/-- LoopGroundModel act -/
abbrev S_241u  : mS := [(225, 225, 73, 73), (271, 271, 0, 1097), (225, 225, 74, 74), (270, 270, 0, 17)]
abbrev E_241u  (z0 w0 : mZ) (x y tx it mt tt ct : Option Nat) : Int → mZ → mZ → mP → Prop := fun v z w p => p = (pq x y tx it mt tt ct) ∧ 0 ≤ v ∧ v ≤ 1800000000000000 ∧ ((RV z w ∧ v = sm (tr (rE z0) (w0 257)) 18) ∧ RKP z0 w0 z w (w0 257))
theorem m_241u {d : Nat} {z0 w0 : mZ} {x y tx it mt tt ct : Option Nat}  (hz : rz z0) (hw : rw_ w0) (hrv : RV z0 w0) (hg : NBr w0 257) (hgf : FTw z0 (w0 257)) : wc (d + 4) 241 [.ref 225] (mk z0 w0 (pq x y tx it mt tt ct)) (poL S_241u z0 w0 (E_241u  z0 w0 x y tx it mt tt ct)) := by
  have hst : st_ S_241u z0 w0 z0 w0 := st_rf hz hw
  have h73 := rd_225_73 hz
  have h74 := rd_225_74 hz
  have hsum := hrv.2.2.1.1
  have h18 := rE18 hz
  have key : ∀ N : Nat, (∀ (x1 : Int) (z w : mZ), 0 ≤ x1 ∧ x1 ≤ 18 → st_ S_241u z0 w0 z w → z 225 74 = z0 225 74 → (z 225 73 ≤ 59) → (∀ j : Nat, (j : Int) < z 225 73 → FTw z0 (fun e => w 271 (18 * j + e))) → (∀ e : Nat, (e : Int) < x1 → w 271 (18 * (z 225 73).toNat + e) = w0 270 e ∧ w 270 e = w0 257 e) → (∀ e : Nat, x1 ≤ e → w 270 e = w0 270 e) → (ACp z0 w0 z w) → 46 * (18 - x1) + 37 < (N : Int) → wp_ (d + 3) 241 2 (some .long) (15, [(0, .ref 225), (1, .int (Int32.ofInt x1))], [], mk z w (pq x y tx it mt tt ct)) (poL S_241u z0 w0 (E_241u  z0 w0 x y tx it mt tt ct))) := by
    intro N
    induction N with
    | zero =>
      intro x1 z w
      intros; exfalso; omega
    | succ N ih =>
      have ih0 := ih; clear ih
      intro x1 z w  hx1 hst un_z_225_74 as1 as2 as3 as4 as7 hM
      have h73z := rd_225_73 hst.1
      refine r_ld (pc' := 16) rfl rfl rfl rfl ?_
      refine r_cb (pc' := 18) rfl (by decide) rfl ?_
      refine r_ige (pc' := 21) rfl rfl ⟨by omega, by omega⟩ ⟨by decide, by decide⟩ (fun hc38 => ?_) (fun hc38 => ?_)
      · skip
        refine r_ld (pc' := 60) rfl rfl rfl rfl ?_
        refine r_al (pc' := 61) rfl rfl rfl rfl ?_
        have hb39 := rd_225_73 hst.1
        refine r_gi (pc' := 64) rfl rfl sh_225 rfl rfl ?_
        refine r_c0 (pc' := 65) rfl rfl ?_
        refine r_add (pc' := 66) rfl rfl ?_
        refine r_pi (pc' := 69) rfl rfl sh_225 rfl rfl hst (inS_0 (by omega) (by omega) (by omega) (by omega)) (wr_225_73 ⟨by omega, by omega⟩) (fun z40 hq41 hs42 => ?_)
        refine r_ld (pc' := 70) rfl rfl rfl rfl ?_
        refine r_c0 (pc' := 71) rfl rfl ?_
        refine r_pi (pc' := 74) rfl rfl sh_225 rfl rfl hs42 (inS_s (inS_s (inS_0 (by omega) (by omega) (by omega) (by omega)))) (wr_225_74 ⟨by omega, by omega⟩) (fun z43 hq44 hs45 => ?_)
        refine r_ld (pc' := 75) rfl rfl rfl rfl ?_
        refine r_cVL (pc' := 78) rfl rfl rfl rfl rfl sh_225 (m_239v (d := d)  hs45.1 hs45.2.1 ) (fun v46 z47 w48 p49 h50 hs51 hE52 => ?_)
        obtain ⟨rfl, rfl, rfl, hE52⟩ := hE52
        have hna := hE52.2.2
        have hf54 : z43 225 73 = (z 225 73) + 1 := (((congrFun (congrFun hq44 _) _).trans (mu_ne (by omega))).trans ((congrFun (congrFun hq41 _) _).trans mu_eq))
        have hf55 : z43 225 74 = 0 := ((congrFun (congrFun hq44 _) _).trans mu_eq)
        exact r_rl rfl (po_L hs45 ⟨by omega, by omega⟩ ⟨rfl, by omega, by omega, (by refine ⟨?_, ACp_e (z1 := z) (w1 := w) as7 (fun e he => as3 e (by omega)) (by omega) (by omega) (funext fun i => rfl) (funext fun i => rfl)⟩; (refine ⟨RV_at hz (fun i h1 h2 => hs45.2.2.1 _ _ (notS_c (by omega) (notS_c (by omega) (notS_c (by omega) (notS_c (by omega) (notS_n)))))) (fun a h1 h2 h3 => funext fun i => hs45.2.2.1 _ _ (notS_c (by omega) (notS_c (by omega) (notS_c (by omega) (notS_c (by omega) (notS_n)))))) (fun a h1 h2 => funext fun i => hs45.2.2.1 _ _ (notS_c (by omega) (notS_c (by omega) (notS_c (by omega) (notS_c (by omega) (notS_n)))))) (funext fun i => hs45.2.2.1 _ _ (notS_c (by omega) (notS_c (by omega) (notS_c (by omega) (notS_c (by omega) (notS_n)))))) (funext fun i => hs45.2.2.2 _ _ (notS_c (by omega) (notS_c (by omega) (notS_c (by omega) (notS_c (by omega) (notS_n)))))) (k := (z 225 73).toNat) (by omega) (by omega) (by omega) (fun j hj => FTw_c (z := z0) (z' := z0) (n := fun e => w 271 (18 * j + e)) rfl rfl h18 (fun e he => rfl) (as2 j (by omega))) (fun e he => as3 e (by omega)) hgf hrv, ?_⟩; rw [hna]; exact sm_c 18 (fun j hj => tr_c (by show 3 * z43 225 26 / 2 = 3 * z0 225 26 / 2; rw [show z43 225 26 = z0 225 26 from (((congrFun (congrFun hq44 _) _).trans (mu_ne (by omega))).trans (((congrFun (congrFun hq41 _) _).trans (mu_ne (by omega))).trans (hst.2.2.1 _ _ (notS_c (by omega) (notS_c (by omega) (notS_c (by omega) (notS_c (by omega) notS_n)))))))]) (as3 j (by omega)).2)))⟩)
      · skip
        have hgx := hg x1.toNat (by omega)
        refine r_ld (pc' := 22) rfl rfl rfl rfl ?_
        refine r_gr (b := 271) (pc' := 25) rfl rfl sh_225 rfl pp_225_72 ?_
        refine r_cb (pc' := 27) rfl (by decide) rfl ?_
        refine r_ld (pc' := 28) rfl rfl rfl rfl ?_
        have hb56 := rd_225_73 hst.1
        refine r_gi (pc' := 31) rfl rfl sh_225 rfl rfl ?_
        refine r_mul (pc' := 32) rfl rfl ?_
        refine r_ld (pc' := 33) rfl rfl rfl rfl ?_
        refine r_add (pc' := 34) rfl rfl ?_
        refine r_ld (pc' := 35) rfl rfl rfl rfl ?_
        refine r_gr (b := 270) (pc' := 38) rfl rfl sh_225 rfl pp_225_71 ?_
        refine r_ld (pc' := 39) rfl rfl rfl rfl ?_
        have hb57 := rd_270 hst.2.1 (i := x1.toNat) (by omega)
        refine r_la (pc' := 40) rfl rfl sh_270 rfl (by omega) (by omega) rfl ?_
        refine r_ls (pc' := 41) rfl rfl sh_271 rfl (by omega) (by omega) hst (inS_s (inS_0 (by omega) (by omega) (by omega) (by omega))) (wr_271 ⟨by omega, by omega⟩) (fun w58 hq59 hs60 => ?_)
        have hqa := hq59
        refine r_ld (pc' := 42) rfl rfl rfl rfl ?_
        refine r_gr (b := 270) (pc' := 45) rfl rfl sh_225 rfl pp_225_71 ?_
        refine r_ld (pc' := 46) rfl rfl rfl rfl ?_
        refine r_ld (pc' := 47) rfl rfl rfl rfl ?_
        refine r_gr (b := 257) (pc' := 50) rfl rfl sh_225 rfl pp_225_55 ?_
        refine r_ld (pc' := 51) rfl rfl rfl rfl ?_
        have hb61 := rd_257 hw (i := x1.toNat) (by omega)
        refine r_la (pc' := 52) rfl rfl sh_257 rfl (by omega) (by omega) (((congrFun (congrFun hq59 _) _).trans (mu_ne (by omega))).trans (hst.2.2.2 _ _ (notS_c (by omega) (notS_c (by omega) (notS_c (by omega) (notS_c (by omega) notS_n)))))) ?_
        refine r_ls (pc' := 53) rfl rfl sh_270 rfl (by omega) (by omega) hs60 (inS_s (inS_s (inS_s (inS_0 (by omega) (by omega) (by omega) (by omega))))) (wr_270 ⟨by omega, by omega⟩) (fun w62 hq63 hs64 => ?_)
        have hqb := hq63
        have hl2 : ∀ j : Nat, (j : Int) < z 225 73 → FTw z0 (fun e => w62 271 (18 * j + e)) := fun j hj => FTw_c (z := z0) (z' := z0) (n := fun e => w 271 (18 * j + e)) rfl rfl h18 (fun e he => by show w62 271 _ = w 271 _; rw [hqb, mu_ne (by omega), hqa, mu_ne (by omega)]) (as2 j hj)
        have hl3 : ∀ e : Nat, (e : Int) < x1 + 1 → w62 271 (18 * (z 225 73).toNat + e) = w0 270 e ∧ w62 270 e = w0 257 e := by
          intro e he
          by_cases c : e = x1.toNat
          · subst c
            exact ⟨by rw [hqb, mu_ne (by omega), hqa, mu_eqi (by omega)]; exact as4 _ (by omega), by rw [hqb, mu_eq]⟩
          · rw [hqb, mu_ne (by omega), mu_ne (by omega), hqa, mu_ne (by omega), mu_ne (by omega)]; exact as3 e (by omega)
        have hl4 : ∀ e : Nat, x1 + 1 ≤ e → w62 270 e = w0 270 e := by
          intro e he
          rw [hqb, mu_ne (by omega), hqa, mu_ne (by omega)]; exact as4 e (by omega)
        have hl7 : ACp z0 w0 z w62 := ACp_w as7 rfl (fun i hi => by rw [hqb, mu_ne (by omega), hqa, mu_ne (by omega)])
        refine r_inc (pc' := 56) (lv' := [(0, _)]) rfl rfl rfl rfl rfl ?_
        refine r_go rfl ?_
        have hb65 := rd_225_74 hz
        exact w_lv (sub_c rfl (sub_c rfl sub_n)) rfl (ih0 (x1 + 1) z w62 ⟨by omega, by omega⟩ hs64 (un_z_225_74) (by omega) (by first | exact hl2 | exact hi2 | exact fun j hj => hrv.2.2.1.2 j (by omega)) (by first | exact hl3 | (intro e he; exfalso; omega)) (by first | exact hl4 | exact fun e _ => hi4 e | exact fun e _ => rfl) (by first | exact hl7 | exact hi7 | exact ACp_0 (by omega)) (by omega))
  refine w_m rfl rfl ?_
  refine r_ld (pc' := 1) rfl rfl rfl rfl ?_
  have hb66 := rd_225_73 hz
  refine r_gi (pc' := 4) rfl rfl sh_225 rfl rfl ?_
  refine r_cb (pc' := 6) rfl (by decide) rfl ?_
  refine r_ine (pc' := 9) rfl rfl ⟨by omega, by omega⟩ ⟨by decide, by decide⟩ (fun hc67 => ?_) (fun hc67 => ?_)
  · skip
    refine r_c0 (pc' := 14) rfl rfl ?_
    refine r_st (pc' := 15) (lv' := [(1, _), (0, _)]) rfl rfl rfl rfl ?_
    have hb68 := rd_225_74 hz
    exact w_lv (sub_c rfl (sub_c rfl sub_n)) rfl ((key ((46 * (18 - 0) + 37 : Int).toNat + 1)) 0 z0 w0 ⟨by omega, by omega⟩ hst (rfl) (by omega) (by first | exact hl2 | exact hi2 | exact fun j hj => hrv.2.2.1.2 j (by omega)) (by first | exact hl3 | (intro e he; exfalso; omega)) (by first | exact hl4 | exact fun e _ => hi4 e | exact fun e _ => rfl) (by first | exact hl7 | exact hi7 | exact ACp_0 (by omega)) (by omega))
  · skip
    refine r_ld (pc' := 10) rfl rfl rfl rfl ?_
    refine r_cVV (pc' := 13) rfl rfl rfl rfl rfl sh_225 (m_240v (d := d + 2)  hst.1 hst.2.1 (by first | omega | assumption)) (fun z70 w71 p72 hs74 hE75 => ?_)
    have hs76 := st_tr hst hs74 (sub_B rfl)
    obtain ⟨rfl, hE75⟩ := hE75
    have hso := hE75
    have hi1 : z70 225 73 ≤ 59 := by omega
    have hi2 : ∀ j : Nat, (j : Int) < z70 225 73 → FTw z0 (fun e => w71 271 (18 * j + e)) := AC_s hz hi1 hrv (by omega) hso.2
    have hi4 : ∀ e : Nat, w71 270 e = w0 270 e := fun e => hs74.2.2.2 _ _ (notS_c (by omega) (notS_c (by omega) notS_n))
    have hi7 : ACp z0 w0 z70 w71 := ACp_s (by omega) hso.1 hso.2
    refine r_c0 (pc' := 14) rfl rfl ?_
    refine r_st (pc' := 15) (lv' := [(1, _), (0, _)]) rfl rfl rfl rfl ?_
    have hb77 := rd_225_73 hs76.1
    have hb78 := rd_225_74 hz
    exact w_lv (sub_c rfl (sub_c rfl sub_n)) rfl ((key ((46 * (18 - 0) + 37 : Int).toNat + 1)) 0 z70 w71 ⟨by omega, by omega⟩ hs76 ((hs74.2.2.1 _ _ (notS_c (by omega) (notS_c (by omega) notS_n)))) (by omega) (by first | exact hl2 | exact hi2 | exact fun j hj => hrv.2.2.1.2 j (by omega)) (by first | exact hl3 | (intro e he; exfalso; omega)) (by first | exact hl4 | exact fun e _ => hi4 e | exact fun e _ => rfl) (by first | exact hl7 | exact hi7 | exact ACp_0 (by omega)) (by omega))
/-- LoopGroundModel image -/
abbrev S_255x  : mS := [(274, 274, 0, 2), (275, 275, 0, 53)]
abbrev E_255x (a1 : Int) (z0 w0 : mZ) (x y tx it mt tt ct : Option Nat) : Int → mZ → mZ → mP → Prop := fun v z w p => p = (pq x y tx it mt tt ct) ∧ (-1) ≤ v ∧ v ≤ 1800000000000000 ∧ (RV z w ∧ RU3 z0 w0 z w ∧ ((¬ (0 ≤ a1 ∧ a1 < 3) ∧ v = -1 ∧ (∀ j, z 274 j = z0 274 j) ∧ w 275 = w0 275) ∨ ((0 ≤ a1 ∧ a1 < 3) ∧ v = sm (tr (rE z0) (w0 270)) 18 ∧ z 274 a1.toNat = 1 ∧ (∀ e : Nat, e < 18 → w 275 (18 * a1.toNat + e) = w0 270 e) ∧ (∀ i : Nat, i < 18 * a1.toNat ∨ 18 * a1.toNat + 18 ≤ i → w 275 i = w0 275 i) ∧ ∀ j : Nat, j ≠ a1.toNat → z 274 j = z0 274 j)))
theorem m_255x {d : Nat} {z0 w0 : mZ} {x y tx it mt tt ct : Option Nat} (a1 : Int) (hz : rz z0) (hw : rw_ w0) (ha1 : (-2147483648) ≤ a1 ∧ a1 ≤ 2147483647) (hrv : RV z0 w0) : wc (d + 4) 255 [.ref 225, .int (Int32.ofInt a1)] (mk z0 w0 (pq x y tx it mt tt ct)) (poL S_255x z0 w0 (E_255x a1 z0 w0 x y tx it mt tt ct)) := by
  have hst : st_ S_255x z0 w0 z0 w0 := st_rf hz hw
  have key : ∀ N : Nat, (∀ (x2 : Int) (z w : mZ), 0 ≤ x2 ∧ x2 ≤ 18 → 0 ≤ a1 ∧ a1 ≤ 2 → st_ S_255x z0 w0 z w → (0 ≤ a1 ∧ a1 ≤ 2) → (∀ e : Nat, (e : Int) < x2 → w 275 (18 * a1.toNat + e) = w0 270 e) → (∀ i : Nat, i < 18 * a1.toNat ∨ 18 * a1.toNat + 18 ≤ i → w 275 i = w0 275 i) → (∀ j : Nat, j ≠ a1.toNat → z 274 j = z0 274 j) → (z 274 a1.toNat = 1) → 32 * (18 - x2) + 19 < (N : Int) → wp_ (d + 3) 255 3 (some .long) (20, [(0, .ref 225), (1, .int (Int32.ofInt a1)), (2, .int (Int32.ofInt x2))], [], mk z w (pq x y tx it mt tt ct)) (poL S_255x z0 w0 (E_255x a1 z0 w0 x y tx it mt tt ct))) := by
    intro N
    induction N with
    | zero =>
      intro x2 z w
      intros; exfalso; omega
    | succ N ih =>
      have ih0 := ih; clear ih
      intro x2 z w  hx2 hpa1 hst as0 as1 as2 as3 as4 hM
      refine r_ld (pc' := 21) rfl rfl rfl rfl ?_
      refine r_cb (pc' := 23) rfl (by decide) rfl ?_
      refine r_ige (pc' := 26) rfl rfl ⟨by omega, by omega⟩ ⟨by decide, by decide⟩ (fun hc27 => ?_) (fun hc27 => ?_)
      · skip
        refine r_ld (pc' := 50) rfl rfl rfl rfl ?_
        have he26 : rE z = rE z0 := by show 3 * z 225 26 / 2 = 3 * z0 225 26 / 2; rw [show z 225 26 = z0 225 26 from (hst.2.2.1 _ _ (notS_c (by omega) (notS_c (by omega) notS_n)))]
        have h270 : w 270 = w0 270 := funext fun i => (hst.2.2.2 _ _ (notS_c (by omega) (notS_c (by omega) notS_n)))
        have hF28 : w 270 = w0 270 := (funext fun _ => hst.2.2.2 _ _ (notS_c (by omega) (notS_c (by omega) notS_n)))
        refine r_cVL (pc' := 53) rfl rfl rfl rfl rfl sh_225 (m_239v (d := d)  hst.1 hst.2.1 ) (fun v29 z30 w31 p32 h33 hs34 hE35 => ?_)
        obtain ⟨rfl, rfl, rfl, hE35⟩ := hE35
        have hsn := hE35.2.2
        exact r_rl rfl (po_L hst ⟨by omega, by omega⟩ ⟨rfl, by omega, by omega, (by refine ⟨?_, ⟨(hst.2.2.1 _ _ (notS_c (by omega) (notS_c (by omega) notS_n))), (hst.2.2.1 _ _ (notS_c (by omega) (notS_c (by omega) notS_n))), funext fun i => (hst.2.2.2 _ _ (notS_c (by omega) (notS_c (by omega) notS_n))), funext fun i => (hst.2.2.2 _ _ (notS_c (by omega) (notS_c (by omega) notS_n)))⟩, Or.inr ⟨by omega, by rw [hsn, he26, h270], as4, fun e he => as1 e (by omega), as2, as3⟩⟩; (exact RV_im hz (fun i h1 h2 => hst.2.2.1 _ _ (notS_c (by omega) (notS_c (by omega) (notS_n)))) (fun a h1 h2 h3 => funext fun i => hst.2.2.1 _ _ (notS_c (by omega) (notS_c (by omega) (notS_n)))) (fun a h1 h2 => funext fun i => hst.2.2.1 _ _ (notS_c (by omega) (notS_c (by omega) (notS_n)))) (hst.2.2.1 _ _ (notS_c (by omega) (notS_c (by omega) (notS_n)))) (hst.2.2.1 _ _ (notS_c (by omega) (notS_c (by omega) (notS_n)))) (funext fun i => hst.2.2.2 _ _ (notS_c (by omega) (notS_c (by omega) (notS_n)))) (funext fun i => hst.2.2.2 _ _ (notS_c (by omega) (notS_c (by omega) (notS_n)))) (fun e he => as1 e (by omega)) as2 as3 hrv))⟩)
      · skip
        refine r_ld (pc' := 27) rfl rfl rfl rfl ?_
        refine r_gr (b := 275) (pc' := 30) rfl rfl sh_225 rfl pp_225_80 ?_
        refine r_cb (pc' := 32) rfl (by decide) rfl ?_
        refine r_ld (pc' := 33) rfl rfl rfl rfl ?_
        refine r_mul (pc' := 34) rfl rfl ?_
        refine r_ld (pc' := 35) rfl rfl rfl rfl ?_
        refine r_add (pc' := 36) rfl rfl ?_
        refine r_ld (pc' := 37) rfl rfl rfl rfl ?_
        refine r_gr (b := 270) (pc' := 40) rfl rfl sh_225 rfl pp_225_71 ?_
        refine r_ld (pc' := 41) rfl rfl rfl rfl ?_
        have hb37 := rd_270 hw (i := x2.toNat) (by omega)
        refine r_la (pc' := 42) rfl rfl sh_270 rfl (by omega) (by omega) (hst.2.2.2 _ _ (notS_c (by omega) (notS_c (by omega) notS_n))) ?_
        refine r_ls (pc' := 43) rfl rfl sh_275 rfl (by omega) (by omega) hst (inS_s (inS_0 (by omega) (by omega) (by omega) (by omega))) (wr_275 ⟨by omega, by omega⟩) (fun w38 hq39 hs40 => ?_)
        have hqa := hq39
        refine r_inc (pc' := 46) (lv' := [(0, _), (1, _)]) rfl rfl rfl rfl rfl ?_
        refine r_go rfl ?_
        exact w_lv (sub_c rfl (sub_c rfl (sub_c rfl sub_n))) rfl (ih0 (x2 + 1) z w38 ⟨by omega, by omega⟩ ⟨by omega, by omega⟩ hs40 (by first | omega | assumption) (by first | (intro e he; exfalso; omega) | (intro e he; rw [hqa]; by_cases c : e = x2.toNat; (subst c; exact mu_eqi (by omega)); (rw [mu_ne (by omega)]; exact as1 e (by omega)))) (by first | (intro i hi; rfl) | (intro i hi; rw [hqa, mu_ne (by omega)]; exact as2 i hi)) (by first | exact as3 | (intro j hj; rw [hqb]; exact mu_ne (by omega))) (by first | exact as4 | (rw [hqb]; exact mu_eq)) (by omega))
  refine w_m rfl rfl ?_
  refine r_ld (pc' := 1) rfl rfl rfl rfl ?_
  refine r_cSI (pc' := 4) rfl rfl rfl rfl rfl (m_254 (d := d + 2) a1 hst.1 hst.2.1 ⟨by omega, by omega⟩) (fun v41 z42 w43 p44 h45 hs46 hE47 => ?_)
  obtain ⟨rfl, rfl, rfl, hE47⟩ := hE47
  refine r_zne (pc' := 7) rfl rfl ⟨by omega, by omega⟩ (fun hc49 => ?_) (fun hc49 => ?_)
  · skip
    refine r_ld (pc' := 12) rfl rfl rfl rfl ?_
    refine r_gr (b := 274) (pc' := 15) rfl rfl sh_225 rfl pp_225_79 ?_
    refine r_ld (pc' := 16) rfl rfl rfl rfl ?_
    refine r_c0 (pc' := 17) rfl rfl ?_
    refine r_zs (pc' := 18) rfl rfl sh_274 rfl (by omega) (by omega) (by omega) hst (inS_0 (by omega) (by omega) (by omega) (by omega)) (wr_274 ⟨by omega, by omega⟩) (fun z50 hq51 hs52 => ?_)
    have hqb := hq51
    refine r_c0 (pc' := 19) rfl rfl ?_
    refine r_st (pc' := 20) (lv' := [(2, _), (0, _), (1, _)]) rfl rfl rfl rfl ?_
    exact w_lv (sub_c rfl (sub_c rfl (sub_c rfl sub_n))) rfl ((key ((32 * (18 - 0) + 19 : Int).toNat + 1)) 0 z50 w0 ⟨by omega, by omega⟩ ⟨by omega, by omega⟩ hs52 (by first | omega | assumption) (by first | (intro e he; exfalso; omega) | (intro e he; rw [hqa]; by_cases c : e = x2.toNat; (subst c; exact mu_eqi (by omega)); (rw [mu_ne (by omega)]; exact as1 e (by omega)))) (by first | (intro i hi; rfl) | (intro i hi; rw [hqa, mu_ne (by omega)]; exact as2 i hi)) (by first | exact as3 | (intro j hj; rw [hqb]; exact mu_ne (by omega))) (by first | exact as4 | (rw [hqb]; exact mu_eq)) (by omega))
  · skip
    refine r_al (pc' := 10) rfl rfl rfl rfl ?_
    exact r_rl rfl (po_L hst ⟨by decide, by decide⟩ ⟨rfl, by omega, by omega, (by exact ⟨hrv, RU3_r, Or.inl ⟨fun q => by omega, rfl, fun _ => rfl, rfl⟩⟩)⟩)
/-- LoopGroundModel back -/
abbrev S_256x  : mS := [(225, 225, 73, 73), (225, 225, 74, 74), (270, 270, 0, 17)]
abbrev E_256x (a1 : Int) (z0 w0 : mZ) (x y tx it mt tt ct : Option Nat) : Int → mZ → mZ → mP → Prop := fun v z w p => p = (pq x y tx it mt tt ct) ∧ (-1) ≤ v ∧ v ≤ 1800000000000000 ∧ (RV z w ∧ ((¬ (0 ≤ a1 ∧ a1 < 3 ∧ z0 274 a1.toNat = 1) ∧ v = -1 ∧ RU3 z0 w0 z w) ∨ ((0 ≤ a1 ∧ a1 < 3 ∧ z0 274 a1.toNat = 1) ∧ v = sm (tr (rE z0) (fun e => w0 275 (18 * a1.toNat + e))) 18 ∧ z 225 73 = 0 ∧ z 225 74 = 0 ∧ ∀ e : Nat, e < 18 → w 270 e = w0 275 (18 * a1.toNat + e))))
theorem m_256x {d : Nat} {z0 w0 : mZ} {x y tx it mt tt ct : Option Nat} (a1 : Int) (hz : rz z0) (hw : rw_ w0) (ha1 : (-2147483648) ≤ a1 ∧ a1 ≤ 2147483647) (hrv : RV z0 w0) : wc (d + 4) 256 [.ref 225, .int (Int32.ofInt a1)] (mk z0 w0 (pq x y tx it mt tt ct)) (poL S_256x z0 w0 (E_256x a1 z0 w0 x y tx it mt tt ct)) := by
  have hst : st_ S_256x z0 w0 z0 w0 := st_rf hz hw
  have key : ∀ N : Nat, (∀ (x2 : Int) (z w : mZ), 0 ≤ x2 ∧ x2 ≤ 18 → 0 ≤ a1 ∧ a1 ≤ 2 → st_ S_256x z0 w0 z w → z 225 73 = z0 225 73 → z 225 74 = z0 225 74 → (0 ≤ a1 ∧ a1 ≤ 2) → (z0 274 a1.toNat = 1) → (∀ e : Nat, (e : Int) < x2 → w 270 e = w0 275 (18 * a1.toNat + e)) → 38 * (18 - x2) + 27 < (N : Int) → wp_ (d + 3) 256 3 (some .long) (22, [(0, .ref 225), (1, .int (Int32.ofInt a1)), (2, .int (Int32.ofInt x2))], [], mk z w (pq x y tx it mt tt ct)) (poL S_256x z0 w0 (E_256x a1 z0 w0 x y tx it mt tt ct))) := by
    intro N
    induction N with
    | zero =>
      intro x2 z w
      intros; exfalso; omega
    | succ N ih =>
      have ih0 := ih; clear ih
      intro x2 z w  hx2 hpa1 hst un_z_225_73 un_z_225_74 as0 as3 as1 hM
      refine r_ld (pc' := 23) rfl rfl rfl rfl ?_
      refine r_cb (pc' := 25) rfl (by decide) rfl ?_
      refine r_ige (pc' := 28) rfl rfl ⟨by omega, by omega⟩ ⟨by decide, by decide⟩ (fun hc37 => ?_) (fun hc37 => ?_)
      · skip
        refine r_ld (pc' := 52) rfl rfl rfl rfl ?_
        refine r_c0 (pc' := 53) rfl rfl ?_
        refine r_pi (pc' := 56) rfl rfl sh_225 rfl rfl hst (inS_0 (by omega) (by omega) (by omega) (by omega)) (wr_225_73 ⟨by omega, by omega⟩) (fun z38 hq39 hs40 => ?_)
        refine r_ld (pc' := 57) rfl rfl rfl rfl ?_
        refine r_c0 (pc' := 58) rfl rfl ?_
        refine r_pi (pc' := 61) rfl rfl sh_225 rfl rfl hs40 (inS_s (inS_0 (by omega) (by omega) (by omega) (by omega))) (wr_225_74 ⟨by omega, by omega⟩) (fun z41 hq42 hs43 => ?_)
        refine r_ld (pc' := 62) rfl rfl rfl rfl ?_
        have he26 : rE z41 = rE z0 := by show 3 * z41 225 26 / 2 = 3 * z0 225 26 / 2; rw [show z41 225 26 = z0 225 26 from (((congrFun (congrFun hq42 _) _).trans (mu_ne (by omega))).trans (((congrFun (congrFun hq39 _) _).trans (mu_ne (by omega))).trans (hst.2.2.1 _ _ (notS_c (by omega) (notS_c (by omega) (notS_c (by omega) notS_n))))))]
        have h270 : w 270 = w 270 := funext fun i => rfl
        refine r_cVL (pc' := 65) rfl rfl rfl rfl rfl sh_225 (m_239v (d := d)  hs43.1 hs43.2.1 ) (fun v44 z45 w46 p47 h48 hs49 hE50 => ?_)
        obtain ⟨rfl, rfl, rfl, hE50⟩ := hE50
        have hsn := hE50.2.2
        have hf52 : z41 225 73 = 0 := (((congrFun (congrFun hq42 _) _).trans (mu_ne (by omega))).trans ((congrFun (congrFun hq39 _) _).trans mu_eq))
        have hf53 : z41 225 74 = 0 := ((congrFun (congrFun hq42 _) _).trans mu_eq)
        exact r_rl rfl (po_L hs43 ⟨by omega, by omega⟩ ⟨rfl, by omega, by omega, (by refine ⟨?_, Or.inr ⟨⟨by omega, by omega, by omega⟩, ?_, by omega, by omega, fun e he => as1 e (by omega)⟩⟩; (exact RV_bk hz (fun i h1 h2 => hs43.2.2.1 _ _ (notS_c (by omega) (notS_c (by omega) (notS_c (by omega) (notS_n))))) (fun a h1 h2 h3 => funext fun i => hs43.2.2.1 _ _ (notS_c (by omega) (notS_c (by omega) (notS_c (by omega) (notS_n))))) (fun a h1 h2 => funext fun i => hs43.2.2.1 _ _ (notS_c (by omega) (notS_c (by omega) (notS_c (by omega) (notS_n))))) (funext fun i => hs43.2.2.1 _ _ (notS_c (by omega) (notS_c (by omega) (notS_c (by omega) (notS_n))))) (funext fun i => hs43.2.2.2 _ _ (notS_c (by omega) (notS_c (by omega) (notS_c (by omega) (notS_n))))) (k := a1.toNat) (by omega) as3 (by omega) (fun e he => as1 e (by omega)) hrv); (rw [hsn, he26, h270]; exact sm_c 18 (fun j hj => tr_c rfl (as1 j (by omega)))))⟩)
      · skip
        refine r_ld (pc' := 29) rfl rfl rfl rfl ?_
        refine r_gr (b := 270) (pc' := 32) rfl rfl sh_225 rfl pp_225_71 ?_
        refine r_ld (pc' := 33) rfl rfl rfl rfl ?_
        refine r_ld (pc' := 34) rfl rfl rfl rfl ?_
        refine r_gr (b := 275) (pc' := 37) rfl rfl sh_225 rfl pp_225_80 ?_
        refine r_cb (pc' := 39) rfl (by decide) rfl ?_
        refine r_ld (pc' := 40) rfl rfl rfl rfl ?_
        refine r_mul (pc' := 41) rfl rfl ?_
        refine r_ld (pc' := 42) rfl rfl rfl rfl ?_
        refine r_add (pc' := 43) rfl rfl ?_
        have hb54 := rd_275 hw (i := ((18 * a1) + x2).toNat) (by omega)
        refine r_la (pc' := 44) rfl rfl sh_275 rfl (by omega) (by omega) (hst.2.2.2 _ _ (notS_c (by omega) (notS_c (by omega) (notS_c (by omega) notS_n)))) ?_
        refine r_ls (pc' := 45) rfl rfl sh_270 rfl (by omega) (by omega) hst (inS_s (inS_s (inS_0 (by omega) (by omega) (by omega) (by omega)))) (wr_270 ⟨by omega, by omega⟩) (fun w55 hq56 hs57 => ?_)
        have hqa := hq56
        refine r_inc (pc' := 48) (lv' := [(0, _), (1, _)]) rfl rfl rfl rfl rfl ?_
        refine r_go rfl ?_
        have hb58 := rd_225_73 hz
        have hb59 := rd_225_74 hz
        exact w_lv (sub_c rfl (sub_c rfl (sub_c rfl sub_n))) rfl (ih0 (x2 + 1) z w55 ⟨by omega, by omega⟩ ⟨by omega, by omega⟩ hs57 (un_z_225_73) (un_z_225_74) (by first | omega | assumption) (by first | omega | assumption) (by first | (intro e he; exfalso; omega) | (intro e he; rw [hqa]; by_cases c : e = x2.toNat; (subst c; rw [mu_eq, show (18 * a1 + x2).toNat = 18 * a1.toNat + x2.toNat by omega]); (rw [mu_ne (by omega)]; exact as1 e (by omega)))) (by omega))
  refine w_m rfl rfl ?_
  refine r_ld (pc' := 1) rfl rfl rfl rfl ?_
  refine r_cSI (pc' := 4) rfl rfl rfl rfl rfl (m_254 (d := d + 2) a1 hst.1 hst.2.1 ⟨by omega, by omega⟩) (fun v60 z61 w62 p63 h64 hs65 hE66 => ?_)
  obtain ⟨rfl, rfl, rfl, hE66⟩ := hE66
  refine r_zeq (pc' := 7) rfl rfl ⟨by omega, by omega⟩ (fun hc68 => ?_) (fun hc68 => ?_)
  · skip
    refine r_al (pc' := 19) rfl rfl rfl rfl ?_
    have hb69 := rd_225_73 hz
    have hb70 := rd_225_74 hz
    exact r_rl rfl (po_L hst ⟨by decide, by decide⟩ ⟨rfl, by omega, by omega, (by exact ⟨hrv, Or.inl ⟨fun q => by omega, rfl, RU3_r⟩⟩)⟩)
  · skip
    refine r_ld (pc' := 8) rfl rfl rfl rfl ?_
    refine r_gr (b := 274) (pc' := 11) rfl rfl sh_225 rfl pp_225_79 ?_
    refine r_ld (pc' := 12) rfl rfl rfl rfl ?_
    have hb71 := rd_274 hz (i := a1.toNat) (by omega)
    refine r_ba (pc' := 13) rfl rfl sh_274 (Or.inr rfl) rfl (by omega) (by omega) rfl ?_
    refine r_zne (pc' := 16) rfl rfl ⟨by omega, by omega⟩ (fun hc72 => ?_) (fun hc72 => ?_)
    · skip
      refine r_c0 (pc' := 21) rfl rfl ?_
      refine r_st (pc' := 22) (lv' := [(2, _), (0, _), (1, _)]) rfl rfl rfl rfl ?_
      have hb73 := rd_225_73 hz
      have hb74 := rd_225_74 hz
      exact w_lv (sub_c rfl (sub_c rfl (sub_c rfl sub_n))) rfl ((key ((38 * (18 - 0) + 27 : Int).toNat + 1)) 0 z0 w0 ⟨by omega, by omega⟩ ⟨by omega, by omega⟩ hst (rfl) (rfl) (by first | omega | assumption) (by first | omega | assumption) (by first | (intro e he; exfalso; omega) | (intro e he; rw [hqa]; by_cases c : e = x2.toNat; (subst c; rw [mu_eq, show (18 * a1 + x2).toNat = 18 * a1.toNat + x2.toNat by omega]); (rw [mu_ne (by omega)]; exact as1 e (by omega)))) (by omega))
    · skip
      refine r_al (pc' := 19) rfl rfl rfl rfl ?_
      have hb75 := rd_225_73 hz
      have hb76 := rd_225_74 hz
      exact r_rl rfl (po_L hst ⟨by decide, by decide⟩ ⟨rfl, by omega, by omega, (by exact ⟨hrv, Or.inl ⟨fun q => by omega, rfl, RU3_r⟩⟩)⟩)
/-- LoopGroundModel lay -/
abbrev S_242u  : mS := [(225, 225, 58, 58), (225, 225, 59, 59), (257, 257, 0, 17), (225, 225, 73, 73), (271, 271, 0, 1097), (225, 225, 74, 74), (270, 270, 0, 17)]
abbrev E_242u (a1 : Int) (z0 w0 : mZ) (x y tx it mt tt ct : Option Nat) : Int → mZ → mZ → mP → Prop := fun v z w p => p = (pq x y tx it mt tt ct) ∧ (-1) ≤ v ∧ v ≤ 1800000000000000 ∧ (RV z w ∧ ((¬ (0 ≤ a1 ∧ a1 < z0 225 27) ∧ v = -1 ∧ RU3 z0 w0 z w) ∨ ((0 ≤ a1 ∧ a1 < z0 225 27) ∧ v = sm (tr (rE z0) (lnR z0 a1.toNat)) 18 ∧ RKP z0 w0 z w (tr (rE z0) (lnR z0 a1.toNat)))))
theorem m_242u {d : Nat} {z0 w0 : mZ} {x y tx it mt tt ct : Option Nat} (a1 : Int) (hz : rz z0) (hw : rw_ w0) (ha1 : (-2147483648) ≤ a1 ∧ a1 ≤ 2147483647) (hrv : RV z0 w0) : wc (d + 5) 242 [.ref 225, .int (Int32.ofInt a1)] (mk z0 w0 (pq x y tx it mt tt ct)) (poL S_242u z0 w0 (E_242u a1 z0 w0 x y tx it mt tt ct)) := by
  have hst : st_ S_242u z0 w0 z0 w0 := st_rf hz hw
  have hz27 := rd_225_27 hz
  have h27 := rd_225_27 hz
  refine w_m rfl rfl ?_
  refine r_ld (pc' := 1) rfl rfl rfl rfl ?_
  refine r_ld (pc' := 2) rfl rfl rfl rfl ?_
  have hb28 := rd_225_27 hz
  refine r_cVI (pc' := 5) rfl rfl rfl rfl rfl sh_225 (m_173 (d := d + 3) a1 hst.1 hst.2.1 ⟨by omega, by omega⟩) (fun v29 z30 w31 p32 h33 hs34 hE35 => ?_)
  obtain ⟨rfl, rfl, rfl, hE35⟩ := hE35
  refine r_zne (pc' := 8) rfl rfl ⟨by omega, by omega⟩ (fun hc37 => ?_) (fun hc37 => ?_)
  · skip
    refine r_ld (pc' := 13) rfl rfl rfl rfl ?_
    refine r_ld (pc' := 14) rfl rfl rfl rfl ?_
    refine r_cVV (pc' := 17) rfl rfl rfl rfl rfl sh_225 (m_212t (d := d + 2) a1 hst.1 hst.2.1 ⟨by omega, by omega⟩) (fun z39 w40 p41 hs43 hE44 => ?_)
    have hs45 := st_tr hst hs43 (sub_B rfl)
    obtain ⟨rfl, hE44⟩ := hE44
    have hbg := hE44
    have he26 : rE z39 = rE z0 := by show 3 * z39 225 26 / 2 = 3 * z0 225 26 / 2; rw [show z39 225 26 = z0 225 26 from (hs43.2.2.1 _ _ (notS_c (by omega) (notS_c (by omega) (notS_c (by omega) notS_n))))]
    refine r_ld (pc' := 18) rfl rfl rfl rfl ?_
    have hu0 : RU3 z0 w0 z39 w40 := ⟨(hs43.2.2.1 _ _ (notS_c (by omega) (notS_c (by omega) (notS_c (by omega) notS_n)))), (hs43.2.2.1 _ _ (notS_c (by omega) (notS_c (by omega) (notS_c (by omega) notS_n)))), funext fun i => (hs43.2.2.2 _ _ (notS_c (by omega) (notS_c (by omega) (notS_c (by omega) notS_n)))), funext fun i => (hs43.2.2.2 _ _ (notS_c (by omega) (notS_c (by omega) (notS_c (by omega) notS_n))))⟩
    refine r_cVL (pc' := 21) rfl rfl rfl rfl rfl sh_225 (m_241u (d := d)  hs45.1 hs45.2.1 (by exact RV_c hz (fun i h1 h2 => (hs43.2.2.1 _ _ (notS_c (by omega) (notS_c (by omega) (notS_c (by omega) notS_n))))) (fun a h1 h2 h3 => funext fun i => (hs43.2.2.1 _ _ (notS_c (by omega) (notS_c (by omega) (notS_c (by omega) notS_n))))) (fun a h1 h2 => funext fun i => (hs43.2.2.1 _ _ (notS_c (by omega) (notS_c (by omega) (notS_c (by omega) notS_n))))) ((hs43.2.2.1 _ _ (notS_c (by omega) (notS_c (by omega) (notS_c (by omega) notS_n))))) ((hs43.2.2.1 _ _ (notS_c (by omega) (notS_c (by omega) (notS_c (by omega) notS_n))))) (funext fun i => (hs43.2.2.1 _ _ (notS_c (by omega) (notS_c (by omega) (notS_c (by omega) notS_n))))) (fun a h => funext fun i => (hs43.2.2.2 _ _ (notS_c (by omega) (notS_c (by omega) (notS_c (by omega) notS_n))))) hrv) (by exact NB_b (w := w0) (E := rE z0) (f := lnR z0 a1.toNat) (fun j hj => by have := rd_236 hz (i := 18 * a1.toNat + j) (by omega); show 0 ≤ z0 236 _ ∧ z0 236 _ ≤ _; omega) hbg.1) (by exact FTw_b (z := z0) (f := lnR z0 a1.toNat) hz ((hs43.2.2.1 _ _ (notS_c (by omega) (notS_c (by omega) (notS_c (by omega) notS_n))))) (funext fun i => (hs43.2.2.1 _ _ (notS_c (by omega) (notS_c (by omega) (notS_c (by omega) notS_n))))) (hrv.1.2.1 a1.toNat (by omega)).1 hbg.1)) (fun v46 z47 w48 p49 h50 hs51 hE52 => ?_)
    have hs53 := st_tr hs45 hs51 (sub_B rfl)
    obtain ⟨rfl, hE52⟩ := hE52
    have hac := hE52.2.2.1
    have hak := hE52.2.2.2
    exact r_rl rfl (po_L hs53 ⟨by omega, by omega⟩ ⟨rfl, by omega, by omega, (by refine ⟨hac.1, Or.inr ⟨⟨by omega, by omega⟩, ?_, RKP_n (RKP_c hu0 hak) (fun j hj => hbg.1 j hj)⟩⟩; rw [hac.2]; exact sm_c 18 (fun j hj => (tr_c he26 (hbg.1 j hj)).trans (congrFun tr_tr j)))⟩)
  · skip
    refine r_al (pc' := 11) rfl rfl rfl rfl ?_
    exact r_rl rfl (po_L hst ⟨by decide, by decide⟩ ⟨rfl, by omega, by omega, (by exact ⟨hrv, Or.inl ⟨fun q => by omega, rfl, RU3_r⟩⟩)⟩)
/-- LoopGroundModel twist -/
abbrev S_243x  : mS := [(225, 225, 58, 58), (225, 225, 59, 59), (257, 257, 0, 17), (259, 259, 0, 17), (258, 258, 0, 323), (260, 260, 0, 17), (225, 225, 73, 73), (271, 271, 0, 1097), (225, 225, 74, 74), (270, 270, 0, 17)]
abbrev E_243x (a1 : Int) (a2 : Int) (z0 w0 : mZ) (x y tx it mt tt ct : Option Nat) : Int → mZ → mZ → mP → Prop := fun v z w p => p = (pq x y tx it mt tt ct) ∧ (-2) ≤ v ∧ v ≤ 1800000000000000 ∧ (RV z w ∧ ((¬ (0 ≤ a1 ∧ a1 < z0 225 27 ∧ z0 254 a1.toNat = 1 ∧ a2 ≠ 0 ∧ -99 ≤ a2 ∧ a2 ≤ 99) ∧ v = -1 ∧ RU3 z0 w0 z w) ∨ ((0 ≤ a1 ∧ a1 < z0 225 27 ∧ z0 254 a1.toNat = 1 ∧ a2 ≠ 0 ∧ -99 ≤ a2 ∧ a2 ≤ 99) ∧ RAC z0 w0 z w v (gal (rdr z0 a1.toNat) a2))))
theorem m_243x {d : Nat} {z0 w0 : mZ} {x y tx it mt tt ct : Option Nat} (a1 : Int) (a2 : Int) (hz : rz z0) (hw : rw_ w0) (ha1 : (-2147483648) ≤ a1 ∧ a1 ≤ 2147483647) (ha2 : (-2147483648) ≤ a2 ∧ a2 ≤ 2147483647) (hrv : RV z0 w0) : wc (d + 6) 243 [.ref 225, .int (Int32.ofInt a1), .int (Int32.ofInt a2)] (mk z0 w0 (pq x y tx it mt tt ct)) (poL S_243x z0 w0 (E_243x a1 a2 z0 w0 x y tx it mt tt ct)) := by
  have hst : st_ S_243x z0 w0 z0 w0 := st_rf hz hw
  have hz46 := rd_225_27 hz
  have h27 := rd_225_27 hz
  refine w_m rfl rfl ?_
  refine r_ld (pc' := 1) rfl rfl rfl rfl ?_
  refine r_ld (pc' := 2) rfl rfl rfl rfl ?_
  have hb47 := rd_225_27 hz
  refine r_cVI (pc' := 5) rfl rfl rfl rfl rfl sh_225 (m_173 (d := d + 4) a1 hst.1 hst.2.1 ⟨by omega, by omega⟩) (fun v48 z49 w50 p51 h52 hs53 hE54 => ?_)
  obtain ⟨rfl, rfl, rfl, hE54⟩ := hE54
  refine r_zeq (pc' := 8) rfl rfl ⟨by omega, by omega⟩ (fun hc56 => ?_) (fun hc56 => ?_)
  · skip
    refine r_al (pc' := 36) rfl rfl rfl rfl ?_
    exact r_rl rfl (po_L hst ⟨by decide, by decide⟩ ⟨rfl, by omega, by omega, (by exact ⟨hrv, Or.inl ⟨fun q => by omega, rfl, RU3_r⟩⟩)⟩)
  · skip
    refine r_ld (pc' := 9) rfl rfl rfl rfl ?_
    refine r_gr (b := 254) (pc' := 12) rfl rfl sh_225 rfl pp_225_50 ?_
    refine r_ld (pc' := 13) rfl rfl rfl rfl ?_
    have hb57 := rd_254 hz (i := a1.toNat) (by omega)
    refine r_ba (pc' := 14) rfl rfl sh_254 (Or.inr rfl) rfl (by omega) (by omega) rfl ?_
    refine r_zeq (pc' := 17) rfl rfl ⟨by omega, by omega⟩ (fun hc58 => ?_) (fun hc58 => ?_)
    · skip
      refine r_al (pc' := 36) rfl rfl rfl rfl ?_
      exact r_rl rfl (po_L hst ⟨by decide, by decide⟩ ⟨rfl, by omega, by omega, (by exact ⟨hrv, Or.inl ⟨fun q => by omega, rfl, RU3_r⟩⟩)⟩)
    · skip
      refine r_ld (pc' := 18) rfl rfl rfl rfl ?_
      refine r_zeq (pc' := 21) rfl rfl ⟨by omega, by omega⟩ (fun hc59 => ?_) (fun hc59 => ?_)
      · skip
        refine r_al (pc' := 36) rfl rfl rfl rfl ?_
        exact r_rl rfl (po_L hst ⟨by decide, by decide⟩ ⟨rfl, by omega, by omega, (by exact ⟨hrv, Or.inl ⟨fun q => by omega, rfl, RU3_r⟩⟩)⟩)
      · skip
        refine r_ld (pc' := 22) rfl rfl rfl rfl ?_
        refine r_cb (pc' := 24) rfl (by decide) rfl ?_
        refine r_ilt (pc' := 27) rfl rfl ⟨by omega, by omega⟩ ⟨by decide, by decide⟩ (fun hc60 => ?_) (fun hc60 => ?_)
        · skip
          refine r_al (pc' := 36) rfl rfl rfl rfl ?_
          exact r_rl rfl (po_L hst ⟨by decide, by decide⟩ ⟨rfl, by omega, by omega, (by exact ⟨hrv, Or.inl ⟨fun q => by omega, rfl, RU3_r⟩⟩)⟩)
        · skip
          refine r_ld (pc' := 28) rfl rfl rfl rfl ?_
          refine r_cb (pc' := 30) rfl (by decide) rfl ?_
          refine r_ile (pc' := 33) rfl rfl ⟨by omega, by omega⟩ ⟨by decide, by decide⟩ (fun hc61 => ?_) (fun hc61 => ?_)
          · skip
            refine r_ld (pc' := 38) rfl rfl rfl rfl ?_
            refine r_c0 (pc' := 39) rfl rfl ?_
            refine r_cVV (pc' := 42) rfl rfl rfl rfl rfl sh_225 (m_212n (d := d + 3) ((-1)) hst.1 hst.2.1 ⟨by omega, by omega⟩) (fun z63 w64 p65 hs67 hE68 => ?_)
            have hs69 := st_tr hst hs67 (sub_B rfl)
            obtain ⟨rfl, hE68⟩ := hE68
            have hbg := hE68
            have hza := hs69.1
            have hRa : RW z63 := RW_c ((hs67.2.2.1 _ _ (notS_c (by omega) (notS_c (by omega) (notS_c (by omega) notS_n))))) (funext fun i => (hs67.2.2.1 _ _ (notS_c (by omega) (notS_c (by omega) (notS_c (by omega) notS_n))))) (funext fun i => (hs67.2.2.1 _ _ (notS_c (by omega) (notS_c (by omega) (notS_c (by omega) notS_n))))) (funext fun i => (hs67.2.2.1 _ _ (notS_c (by omega) (notS_c (by omega) (notS_c (by omega) notS_n))))) hrv.1.1
            refine r_ld (pc' := 43) rfl rfl rfl rfl ?_
            refine r_ld (pc' := 44) rfl rfl rfl rfl ?_
            refine r_ld (pc' := 45) rfl rfl rfl rfl ?_
            have rdz : rdr z63 a1.toNat = rdr z0 a1.toNat := rdr_f (fun a h1 h2 => funext fun i => (hs67.2.2.1 _ _ (notS_c (by omega) (notS_c (by omega) (notS_c (by omega) notS_n)))))
            have hb70 := rd_225_58 hs69.1
            have hb71 := rd_225_26 hz
            have hf72 : z63 225 26 = z0 225 26 := (hs67.2.2.1 _ _ (notS_c (by omega) (notS_c (by omega) (notS_c (by omega) notS_n))))
            have hF73 : z63 235 = z0 235 := (funext fun _ => hs67.2.2.1 _ _ (notS_c (by omega) (notS_c (by omega) (notS_c (by omega) notS_n))))
            refine r_cVV (pc' := 48) rfl rfl rfl rfl rfl sh_225 (m_210e (d := d) a1 a2 hs69.1 hs69.2.1 ⟨by omega, by omega⟩ ⟨by omega, by omega⟩ (by exact NB_b (w := w0) (E := rE z0) (f := w0 270) (fun j hj => rd_270 hw (i := j) hj) hbg.1) (by exact hbg.2.1) (by exact FTw_w (f := w0 270) hrv.1.1 ((hs67.2.2.1 _ _ (notS_c (by omega) (notS_c (by omega) (notS_c (by omega) notS_n))))) (funext fun i => (hs67.2.2.1 _ _ (notS_c (by omega) (notS_c (by omega) (notS_c (by omega) notS_n))))) hrv.2.1 hbg.1) (by exact GRq_c ((hs67.2.2.1 _ _ (notS_c (by omega) (notS_c (by omega) (notS_c (by omega) notS_n))))) (funext fun i => (hs67.2.2.1 _ _ (notS_c (by omega) (notS_c (by omega) (notS_c (by omega) notS_n))))) (fun a h1 h2 => funext fun i => (hs67.2.2.1 _ _ (notS_c (by omega) (notS_c (by omega) (notS_c (by omega) notS_n))))) (hrv.1.2.2.2 a1.toNat (by omega))) (by rw [show z63 254 a1.toNat = z0 254 a1.toNat from (hs67.2.2.1 _ _ (notS_c (by omega) (notS_c (by omega) (notS_c (by omega) notS_n))))]; omega)) (fun z75 w76 p77 hs79 hE80 => ?_)
            have hs81 := st_tr hs69 hs79 (sub_B rfl)
            obtain ⟨rfl, hE80⟩ := hE80
            have htw := hE80.1
            have hte := hE80.2
            rw [rdz] at hte
            refine r_ld (pc' := 49) rfl rfl rfl rfl ?_
            have hb82 := rd_225_58 hs81.1
            refine r_gi (pc' := 52) rfl rfl sh_225 rfl rfl ?_
            refine r_zeq (pc' := 55) rfl rfl ⟨by omega, by omega⟩ (fun hc83 => ?_) (fun hc83 => ?_)
            · skip
              refine r_ld (pc' := 62) rfl rfl rfl rfl ?_
              have hu0 : RU3 z0 w0 z75 w76 := ⟨((hs79.2.2.1 _ _ (notS_c (by omega) (notS_c (by omega) (notS_c (by omega) (notS_c (by omega) (notS_c (by omega) notS_n)))))).trans (hs67.2.2.1 _ _ (notS_c (by omega) (notS_c (by omega) (notS_c (by omega) notS_n))))), ((hs79.2.2.1 _ _ (notS_c (by omega) (notS_c (by omega) (notS_c (by omega) (notS_c (by omega) (notS_c (by omega) notS_n)))))).trans (hs67.2.2.1 _ _ (notS_c (by omega) (notS_c (by omega) (notS_c (by omega) notS_n))))), funext fun i => ((hs79.2.2.2 _ _ (notS_c (by omega) (notS_c (by omega) (notS_c (by omega) (notS_c (by omega) (notS_c (by omega) notS_n)))))).trans (hs67.2.2.2 _ _ (notS_c (by omega) (notS_c (by omega) (notS_c (by omega) notS_n))))), funext fun i => ((hs79.2.2.2 _ _ (notS_c (by omega) (notS_c (by omega) (notS_c (by omega) (notS_c (by omega) (notS_c (by omega) notS_n)))))).trans (hs67.2.2.2 _ _ (notS_c (by omega) (notS_c (by omega) (notS_c (by omega) notS_n)))))⟩
              have he26 : rE z75 = rE z0 := by show 3 * z75 225 26 / 2 = 3 * z0 225 26 / 2; rw [show z75 225 26 = z0 225 26 from ((hs79.2.2.1 _ _ (notS_c (by omega) (notS_c (by omega) (notS_c (by omega) (notS_c (by omega) (notS_c (by omega) notS_n)))))).trans (hs67.2.2.1 _ _ (notS_c (by omega) (notS_c (by omega) (notS_c (by omega) notS_n)))))]
              refine r_cVL (pc' := 65) rfl rfl rfl rfl rfl sh_225 (m_241u (d := d + 1)  hs81.1 hs81.2.1 (by exact RV_c hz (fun i h1 h2 => ((hs79.2.2.1 _ _ (notS_c (by omega) (notS_c (by omega) (notS_c (by omega) (notS_c (by omega) (notS_c (by omega) notS_n)))))).trans (hs67.2.2.1 _ _ (notS_c (by omega) (notS_c (by omega) (notS_c (by omega) notS_n)))))) (fun a h1 h2 h3 => funext fun i => ((hs79.2.2.1 _ _ (notS_c (by omega) (notS_c (by omega) (notS_c (by omega) (notS_c (by omega) (notS_c (by omega) notS_n)))))).trans (hs67.2.2.1 _ _ (notS_c (by omega) (notS_c (by omega) (notS_c (by omega) notS_n)))))) (fun a h1 h2 => funext fun i => ((hs79.2.2.1 _ _ (notS_c (by omega) (notS_c (by omega) (notS_c (by omega) (notS_c (by omega) (notS_c (by omega) notS_n)))))).trans (hs67.2.2.1 _ _ (notS_c (by omega) (notS_c (by omega) (notS_c (by omega) notS_n)))))) (((hs79.2.2.1 _ _ (notS_c (by omega) (notS_c (by omega) (notS_c (by omega) (notS_c (by omega) (notS_c (by omega) notS_n)))))).trans (hs67.2.2.1 _ _ (notS_c (by omega) (notS_c (by omega) (notS_c (by omega) notS_n)))))) (((hs79.2.2.1 _ _ (notS_c (by omega) (notS_c (by omega) (notS_c (by omega) (notS_c (by omega) (notS_c (by omega) notS_n)))))).trans (hs67.2.2.1 _ _ (notS_c (by omega) (notS_c (by omega) (notS_c (by omega) notS_n)))))) (funext fun i => ((hs79.2.2.1 _ _ (notS_c (by omega) (notS_c (by omega) (notS_c (by omega) (notS_c (by omega) (notS_c (by omega) notS_n)))))).trans (hs67.2.2.1 _ _ (notS_c (by omega) (notS_c (by omega) (notS_c (by omega) notS_n)))))) (fun a h => funext fun i => ((hs79.2.2.2 _ _ (notS_c (by omega) (notS_c (by omega) (notS_c (by omega) (notS_c (by omega) (notS_c (by omega) notS_n)))))).trans (hs67.2.2.2 _ _ (notS_c (by omega) (notS_c (by omega) (notS_c (by omega) notS_n)))))) hrv) (by exact (htw (by omega)).2.1) (by exact FTw_t hza hRa ((hs79.2.2.1 _ _ (notS_c (by omega) (notS_c (by omega) (notS_c (by omega) (notS_c (by omega) (notS_c (by omega) notS_n))))))) (funext fun i => (hs79.2.2.1 _ _ (notS_c (by omega) (notS_c (by omega) (notS_c (by omega) (notS_c (by omega) (notS_c (by omega) notS_n))))))) (htw (by omega)).1)) (fun v84 z85 w86 p87 h88 hs89 hE90 => ?_)
              have hs91 := st_tr hs81 hs89 (sub_B rfl)
              obtain ⟨rfl, hE90⟩ := hE90
              have hac := hE90.2.2.1.1
              have hav := hE90.2.2.1.2
              have hak := hE90.2.2.2
              rw [he26] at hav
              exact r_rl rfl (po_L hs91 ⟨by omega, by omega⟩ ⟨rfl, by omega, by omega, (by first | exact ⟨hac, Or.inr ⟨⟨by omega, by omega, by omega, by omega, by omega, by omega⟩, w64 257, hbg.1, Or.inr ⟨w76 257, hte.1 (by omega), hav, RKP_c hu0 hak⟩⟩⟩ | exact ⟨by exact RV_c hz (fun i h1 h2 => ((hs89.2.2.1 _ _ (notS_c (by omega) (notS_c (by omega) (notS_c (by omega) (notS_c (by omega) notS_n))))).trans ((hs79.2.2.1 _ _ (notS_c (by omega) (notS_c (by omega) (notS_c (by omega) (notS_c (by omega) (notS_c (by omega) notS_n)))))).trans (hs67.2.2.1 _ _ (notS_c (by omega) (notS_c (by omega) (notS_c (by omega) notS_n))))))) (fun a h1 h2 h3 => funext fun i => ((hs89.2.2.1 _ _ (notS_c (by omega) (notS_c (by omega) (notS_c (by omega) (notS_c (by omega) notS_n))))).trans ((hs79.2.2.1 _ _ (notS_c (by omega) (notS_c (by omega) (notS_c (by omega) (notS_c (by omega) (notS_c (by omega) notS_n)))))).trans (hs67.2.2.1 _ _ (notS_c (by omega) (notS_c (by omega) (notS_c (by omega) notS_n))))))) (fun a h1 h2 => funext fun i => ((hs89.2.2.1 _ _ (notS_c (by omega) (notS_c (by omega) (notS_c (by omega) (notS_c (by omega) notS_n))))).trans ((hs79.2.2.1 _ _ (notS_c (by omega) (notS_c (by omega) (notS_c (by omega) (notS_c (by omega) (notS_c (by omega) notS_n)))))).trans (hs67.2.2.1 _ _ (notS_c (by omega) (notS_c (by omega) (notS_c (by omega) notS_n))))))) (((hs89.2.2.1 _ _ (notS_c (by omega) (notS_c (by omega) (notS_c (by omega) (notS_c (by omega) notS_n))))).trans ((hs79.2.2.1 _ _ (notS_c (by omega) (notS_c (by omega) (notS_c (by omega) (notS_c (by omega) (notS_c (by omega) notS_n)))))).trans (hs67.2.2.1 _ _ (notS_c (by omega) (notS_c (by omega) (notS_c (by omega) notS_n))))))) (((hs89.2.2.1 _ _ (notS_c (by omega) (notS_c (by omega) (notS_c (by omega) (notS_c (by omega) notS_n))))).trans ((hs79.2.2.1 _ _ (notS_c (by omega) (notS_c (by omega) (notS_c (by omega) (notS_c (by omega) (notS_c (by omega) notS_n)))))).trans (hs67.2.2.1 _ _ (notS_c (by omega) (notS_c (by omega) (notS_c (by omega) notS_n))))))) (funext fun i => ((hs89.2.2.1 _ _ (notS_c (by omega) (notS_c (by omega) (notS_c (by omega) (notS_c (by omega) notS_n))))).trans ((hs79.2.2.1 _ _ (notS_c (by omega) (notS_c (by omega) (notS_c (by omega) (notS_c (by omega) (notS_c (by omega) notS_n)))))).trans (hs67.2.2.1 _ _ (notS_c (by omega) (notS_c (by omega) (notS_c (by omega) notS_n))))))) (fun a h => funext fun i => ((hs89.2.2.2 _ _ (notS_c (by omega) (notS_c (by omega) (notS_c (by omega) (notS_c (by omega) notS_n))))).trans ((hs79.2.2.2 _ _ (notS_c (by omega) (notS_c (by omega) (notS_c (by omega) (notS_c (by omega) (notS_c (by omega) notS_n)))))).trans (hs67.2.2.2 _ _ (notS_c (by omega) (notS_c (by omega) (notS_c (by omega) notS_n))))))) hrv, Or.inr ⟨⟨by omega, by omega, by omega, by omega, by omega, by omega⟩, w64 257, hbg.1, Or.inl ⟨hte.2 (by omega), rfl, ⟨((hs89.2.2.1 _ _ (notS_c (by omega) (notS_c (by omega) (notS_c (by omega) (notS_c (by omega) notS_n))))).trans ((hs79.2.2.1 _ _ (notS_c (by omega) (notS_c (by omega) (notS_c (by omega) (notS_c (by omega) (notS_c (by omega) notS_n)))))).trans (hs67.2.2.1 _ _ (notS_c (by omega) (notS_c (by omega) (notS_c (by omega) notS_n)))))), ((hs89.2.2.1 _ _ (notS_c (by omega) (notS_c (by omega) (notS_c (by omega) (notS_c (by omega) notS_n))))).trans ((hs79.2.2.1 _ _ (notS_c (by omega) (notS_c (by omega) (notS_c (by omega) (notS_c (by omega) (notS_c (by omega) notS_n)))))).trans (hs67.2.2.1 _ _ (notS_c (by omega) (notS_c (by omega) (notS_c (by omega) notS_n)))))), funext fun i => ((hs89.2.2.2 _ _ (notS_c (by omega) (notS_c (by omega) (notS_c (by omega) (notS_c (by omega) notS_n))))).trans ((hs79.2.2.2 _ _ (notS_c (by omega) (notS_c (by omega) (notS_c (by omega) (notS_c (by omega) (notS_c (by omega) notS_n)))))).trans (hs67.2.2.2 _ _ (notS_c (by omega) (notS_c (by omega) (notS_c (by omega) notS_n)))))), funext fun i => ((hs89.2.2.2 _ _ (notS_c (by omega) (notS_c (by omega) (notS_c (by omega) (notS_c (by omega) notS_n))))).trans ((hs79.2.2.2 _ _ (notS_c (by omega) (notS_c (by omega) (notS_c (by omega) (notS_c (by omega) (notS_c (by omega) notS_n)))))).trans (hs67.2.2.2 _ _ (notS_c (by omega) (notS_c (by omega) (notS_c (by omega) notS_n))))))⟩⟩⟩⟩)⟩)
            · skip
              refine r_al (pc' := 58) rfl rfl rfl rfl ?_
              refine r_go rfl ?_
              exact r_rl rfl (po_L hs81 ⟨by decide, by decide⟩ ⟨rfl, by omega, by omega, (by first | exact ⟨hac, Or.inr ⟨⟨by omega, by omega, by omega, by omega, by omega, by omega⟩, w64 257, hbg.1, Or.inr ⟨w76 257, hte.1 (by omega), hav, RKP_c hu0 hak⟩⟩⟩ | exact ⟨by exact RV_c hz (fun i h1 h2 => ((hs79.2.2.1 _ _ (notS_c (by omega) (notS_c (by omega) (notS_c (by omega) (notS_c (by omega) (notS_c (by omega) notS_n)))))).trans (hs67.2.2.1 _ _ (notS_c (by omega) (notS_c (by omega) (notS_c (by omega) notS_n)))))) (fun a h1 h2 h3 => funext fun i => ((hs79.2.2.1 _ _ (notS_c (by omega) (notS_c (by omega) (notS_c (by omega) (notS_c (by omega) (notS_c (by omega) notS_n)))))).trans (hs67.2.2.1 _ _ (notS_c (by omega) (notS_c (by omega) (notS_c (by omega) notS_n)))))) (fun a h1 h2 => funext fun i => ((hs79.2.2.1 _ _ (notS_c (by omega) (notS_c (by omega) (notS_c (by omega) (notS_c (by omega) (notS_c (by omega) notS_n)))))).trans (hs67.2.2.1 _ _ (notS_c (by omega) (notS_c (by omega) (notS_c (by omega) notS_n)))))) (((hs79.2.2.1 _ _ (notS_c (by omega) (notS_c (by omega) (notS_c (by omega) (notS_c (by omega) (notS_c (by omega) notS_n)))))).trans (hs67.2.2.1 _ _ (notS_c (by omega) (notS_c (by omega) (notS_c (by omega) notS_n)))))) (((hs79.2.2.1 _ _ (notS_c (by omega) (notS_c (by omega) (notS_c (by omega) (notS_c (by omega) (notS_c (by omega) notS_n)))))).trans (hs67.2.2.1 _ _ (notS_c (by omega) (notS_c (by omega) (notS_c (by omega) notS_n)))))) (funext fun i => ((hs79.2.2.1 _ _ (notS_c (by omega) (notS_c (by omega) (notS_c (by omega) (notS_c (by omega) (notS_c (by omega) notS_n)))))).trans (hs67.2.2.1 _ _ (notS_c (by omega) (notS_c (by omega) (notS_c (by omega) notS_n)))))) (fun a h => funext fun i => ((hs79.2.2.2 _ _ (notS_c (by omega) (notS_c (by omega) (notS_c (by omega) (notS_c (by omega) (notS_c (by omega) notS_n)))))).trans (hs67.2.2.2 _ _ (notS_c (by omega) (notS_c (by omega) (notS_c (by omega) notS_n)))))) hrv, Or.inr ⟨⟨by omega, by omega, by omega, by omega, by omega, by omega⟩, w64 257, hbg.1, Or.inl ⟨hte.2 (by omega), rfl, ⟨((hs79.2.2.1 _ _ (notS_c (by omega) (notS_c (by omega) (notS_c (by omega) (notS_c (by omega) (notS_c (by omega) notS_n)))))).trans (hs67.2.2.1 _ _ (notS_c (by omega) (notS_c (by omega) (notS_c (by omega) notS_n))))), ((hs79.2.2.1 _ _ (notS_c (by omega) (notS_c (by omega) (notS_c (by omega) (notS_c (by omega) (notS_c (by omega) notS_n)))))).trans (hs67.2.2.1 _ _ (notS_c (by omega) (notS_c (by omega) (notS_c (by omega) notS_n))))), funext fun i => ((hs79.2.2.2 _ _ (notS_c (by omega) (notS_c (by omega) (notS_c (by omega) (notS_c (by omega) (notS_c (by omega) notS_n)))))).trans (hs67.2.2.2 _ _ (notS_c (by omega) (notS_c (by omega) (notS_c (by omega) notS_n))))), funext fun i => ((hs79.2.2.2 _ _ (notS_c (by omega) (notS_c (by omega) (notS_c (by omega) (notS_c (by omega) (notS_c (by omega) notS_n)))))).trans (hs67.2.2.2 _ _ (notS_c (by omega) (notS_c (by omega) (notS_c (by omega) notS_n)))))⟩⟩⟩⟩)⟩)
          · skip
            refine r_al (pc' := 36) rfl rfl rfl rfl ?_
            exact r_rl rfl (po_L hst ⟨by decide, by decide⟩ ⟨rfl, by omega, by omega, (by exact ⟨hrv, Or.inl ⟨fun q => by omega, rfl, RU3_r⟩⟩)⟩)
/-- LoopGroundModel go -/
abbrev S_244x  : mS := [(225, 225, 58, 58), (225, 225, 59, 59), (257, 257, 0, 17), (259, 259, 0, 17), (258, 258, 0, 323), (260, 260, 0, 17), (225, 225, 73, 73), (271, 271, 0, 1097), (225, 225, 74, 74), (270, 270, 0, 17)]
abbrev E_244x (a1 : Int) (z0 w0 : mZ) (x y tx it mt tt ct : Option Nat) : Int → mZ → mZ → mP → Prop := fun v z w p => p = (pq x y tx it mt tt ct) ∧ (-2) ≤ v ∧ v ≤ 1800000000000000 ∧ (RV z w ∧ ((¬ (0 ≤ a1 ∧ a1 < z0 225 28 ∧ FWr z0 a1.toNat) ∧ v = -1 ∧ RU3 z0 w0 z w) ∨ ((0 ≤ a1 ∧ a1 < z0 225 28 ∧ FWr z0 a1.toNat) ∧ RAC z0 w0 z w v (gwr z0 a1.toNat))))
theorem m_244x {d : Nat} {z0 w0 : mZ} {x y tx it mt tt ct : Option Nat} (a1 : Int) (hz : rz z0) (hw : rw_ w0) (ha1 : (-2147483648) ≤ a1 ∧ a1 ≤ 2147483647) (hrv : RV z0 w0) : wc (d + 7) 244 [.ref 225, .int (Int32.ofInt a1)] (mk z0 w0 (pq x y tx it mt tt ct)) (poL S_244x z0 w0 (E_244x a1 z0 w0 x y tx it mt tt ct)) := by
  have hst : st_ S_244x z0 w0 z0 w0 := st_rf hz hw
  have hz41 := rd_225_28 hz
  have h27 := rd_225_27 hz
  have h28 := rd_225_28 hz
  refine w_m rfl rfl ?_
  refine r_ld (pc' := 1) rfl rfl rfl rfl ?_
  refine r_ld (pc' := 2) rfl rfl rfl rfl ?_
  have hb42 := rd_225_28 hz
  refine r_cVI (pc' := 5) rfl rfl rfl rfl rfl sh_225 (m_218x (d := d + 4) a1 hst.1 hst.2.1 ⟨by omega, by omega⟩ (by exact hrv.1.2.2.1)) (fun v43 z44 w45 p46 h47 hs48 hE49 => ?_)
  obtain ⟨rfl, rfl, rfl, hE49⟩ := hE49
  have hfw := hE49.2.2.1
  have hfx := hE49.2.2.2
  refine r_zne (pc' := 8) rfl rfl ⟨by omega, by omega⟩ (fun hc51 => ?_) (fun hc51 => ?_)
  · skip
    refine r_ld (pc' := 13) rfl rfl rfl rfl ?_
    refine r_c0 (pc' := 14) rfl rfl ?_
    refine r_cVV (pc' := 17) rfl rfl rfl rfl rfl sh_225 (m_212n (d := d + 4) ((-1)) hst.1 hst.2.1 ⟨by omega, by omega⟩) (fun z53 w54 p55 hs57 hE58 => ?_)
    have hs59 := st_tr hst hs57 (sub_B rfl)
    obtain ⟨rfl, hE58⟩ := hE58
    have hbg := hE58
    have hza := hs59.1
    have hRa : RW z53 := RW_c ((hs57.2.2.1 _ _ (notS_c (by omega) (notS_c (by omega) (notS_c (by omega) notS_n))))) (funext fun i => (hs57.2.2.1 _ _ (notS_c (by omega) (notS_c (by omega) (notS_c (by omega) notS_n))))) (funext fun i => (hs57.2.2.1 _ _ (notS_c (by omega) (notS_c (by omega) (notS_c (by omega) notS_n))))) (funext fun i => (hs57.2.2.1 _ _ (notS_c (by omega) (notS_c (by omega) (notS_c (by omega) notS_n))))) hrv.1.1
    refine r_ld (pc' := 18) rfl rfl rfl rfl ?_
    refine r_ld (pc' := 19) rfl rfl rfl rfl ?_
    have rdz : ∀ n, gwr z53 a1.toNat n = gwr z0 a1.toNat n := fun n => gwr_f (funext fun i => (hs57.2.2.1 _ _ (notS_c (by omega) (notS_c (by omega) (notS_c (by omega) notS_n))))) (funext fun i => (hs57.2.2.1 _ _ (notS_c (by omega) (notS_c (by omega) (notS_c (by omega) notS_n))))) (funext fun i => (hs57.2.2.1 _ _ (notS_c (by omega) (notS_c (by omega) (notS_c (by omega) notS_n))))) (fun a h1 h2 => funext fun i => (hs57.2.2.1 _ _ (notS_c (by omega) (notS_c (by omega) (notS_c (by omega) notS_n)))))
    have hb60 := rd_225_58 hs59.1
    have hb61 := rd_225_26 hz
    have hf62 : z53 225 26 = z0 225 26 := (hs57.2.2.1 _ _ (notS_c (by omega) (notS_c (by omega) (notS_c (by omega) notS_n))))
    have hF63 : z53 235 = z0 235 := (funext fun _ => hs57.2.2.1 _ _ (notS_c (by omega) (notS_c (by omega) (notS_c (by omega) notS_n))))
    refine r_cVV (pc' := 22) rfl rfl rfl rfl rfl sh_225 (m_211e (d := d) a1 hs59.1 hs59.2.1 ⟨by omega, by omega⟩ (by exact NB_b (w := w0) (E := rE z0) (f := w0 270) (fun j hj => rd_270 hw (i := j) hj) hbg.1) (by exact hbg.2.1) (by exact FTw_w (f := w0 270) hrv.1.1 ((hs57.2.2.1 _ _ (notS_c (by omega) (notS_c (by omega) (notS_c (by omega) notS_n))))) (funext fun i => (hs57.2.2.1 _ _ (notS_c (by omega) (notS_c (by omega) (notS_c (by omega) notS_n))))) hrv.2.1 hbg.1) (by exact fun l hl => GRq_c ((hs57.2.2.1 _ _ (notS_c (by omega) (notS_c (by omega) (notS_c (by omega) notS_n))))) (funext fun i => (hs57.2.2.1 _ _ (notS_c (by omega) (notS_c (by omega) (notS_c (by omega) notS_n))))) (fun a h1 h2 => funext fun i => (hs57.2.2.1 _ _ (notS_c (by omega) (notS_c (by omega) (notS_c (by omega) notS_n))))) (hrv.1.2.2.2 l (by rw [← show z53 225 27 = z0 225 27 from (hs57.2.2.1 _ _ (notS_c (by omega) (notS_c (by omega) (notS_c (by omega) notS_n))))]; exact hl))) (by exact FWr_c ((hs57.2.2.1 _ _ (notS_c (by omega) (notS_c (by omega) (notS_c (by omega) notS_n))))) (funext fun i => (hs57.2.2.1 _ _ (notS_c (by omega) (notS_c (by omega) (notS_c (by omega) notS_n))))) (funext fun i => (hs57.2.2.1 _ _ (notS_c (by omega) (notS_c (by omega) (notS_c (by omega) notS_n))))) (funext fun i => (hs57.2.2.1 _ _ (notS_c (by omega) (notS_c (by omega) (notS_c (by omega) notS_n))))) (hfw (by omega)).2.2)) (fun z65 w66 p67 hs69 hE70 => ?_)
    have hs71 := st_tr hs59 hs69 (sub_B rfl)
    obtain ⟨rfl, hE70⟩ := hE70
    have htw := hE70.1
    have hte := hE70.2
    rw [rdz] at hte
    refine r_ld (pc' := 23) rfl rfl rfl rfl ?_
    have hb72 := rd_225_58 hs71.1
    refine r_gi (pc' := 26) rfl rfl sh_225 rfl rfl ?_
    refine r_zeq (pc' := 29) rfl rfl ⟨by omega, by omega⟩ (fun hc73 => ?_) (fun hc73 => ?_)
    · skip
      refine r_ld (pc' := 36) rfl rfl rfl rfl ?_
      have hu0 : RU3 z0 w0 z65 w66 := ⟨((hs69.2.2.1 _ _ (notS_c (by omega) (notS_c (by omega) (notS_c (by omega) (notS_c (by omega) (notS_c (by omega) notS_n)))))).trans (hs57.2.2.1 _ _ (notS_c (by omega) (notS_c (by omega) (notS_c (by omega) notS_n))))), ((hs69.2.2.1 _ _ (notS_c (by omega) (notS_c (by omega) (notS_c (by omega) (notS_c (by omega) (notS_c (by omega) notS_n)))))).trans (hs57.2.2.1 _ _ (notS_c (by omega) (notS_c (by omega) (notS_c (by omega) notS_n))))), funext fun i => ((hs69.2.2.2 _ _ (notS_c (by omega) (notS_c (by omega) (notS_c (by omega) (notS_c (by omega) (notS_c (by omega) notS_n)))))).trans (hs57.2.2.2 _ _ (notS_c (by omega) (notS_c (by omega) (notS_c (by omega) notS_n))))), funext fun i => ((hs69.2.2.2 _ _ (notS_c (by omega) (notS_c (by omega) (notS_c (by omega) (notS_c (by omega) (notS_c (by omega) notS_n)))))).trans (hs57.2.2.2 _ _ (notS_c (by omega) (notS_c (by omega) (notS_c (by omega) notS_n)))))⟩
      have he26 : rE z65 = rE z0 := by show 3 * z65 225 26 / 2 = 3 * z0 225 26 / 2; rw [show z65 225 26 = z0 225 26 from ((hs69.2.2.1 _ _ (notS_c (by omega) (notS_c (by omega) (notS_c (by omega) (notS_c (by omega) (notS_c (by omega) notS_n)))))).trans (hs57.2.2.1 _ _ (notS_c (by omega) (notS_c (by omega) (notS_c (by omega) notS_n)))))]
      refine r_cVL (pc' := 39) rfl rfl rfl rfl rfl sh_225 (m_241u (d := d + 2)  hs71.1 hs71.2.1 (by exact RV_c hz (fun i h1 h2 => ((hs69.2.2.1 _ _ (notS_c (by omega) (notS_c (by omega) (notS_c (by omega) (notS_c (by omega) (notS_c (by omega) notS_n)))))).trans (hs57.2.2.1 _ _ (notS_c (by omega) (notS_c (by omega) (notS_c (by omega) notS_n)))))) (fun a h1 h2 h3 => funext fun i => ((hs69.2.2.1 _ _ (notS_c (by omega) (notS_c (by omega) (notS_c (by omega) (notS_c (by omega) (notS_c (by omega) notS_n)))))).trans (hs57.2.2.1 _ _ (notS_c (by omega) (notS_c (by omega) (notS_c (by omega) notS_n)))))) (fun a h1 h2 => funext fun i => ((hs69.2.2.1 _ _ (notS_c (by omega) (notS_c (by omega) (notS_c (by omega) (notS_c (by omega) (notS_c (by omega) notS_n)))))).trans (hs57.2.2.1 _ _ (notS_c (by omega) (notS_c (by omega) (notS_c (by omega) notS_n)))))) (((hs69.2.2.1 _ _ (notS_c (by omega) (notS_c (by omega) (notS_c (by omega) (notS_c (by omega) (notS_c (by omega) notS_n)))))).trans (hs57.2.2.1 _ _ (notS_c (by omega) (notS_c (by omega) (notS_c (by omega) notS_n)))))) (((hs69.2.2.1 _ _ (notS_c (by omega) (notS_c (by omega) (notS_c (by omega) (notS_c (by omega) (notS_c (by omega) notS_n)))))).trans (hs57.2.2.1 _ _ (notS_c (by omega) (notS_c (by omega) (notS_c (by omega) notS_n)))))) (funext fun i => ((hs69.2.2.1 _ _ (notS_c (by omega) (notS_c (by omega) (notS_c (by omega) (notS_c (by omega) (notS_c (by omega) notS_n)))))).trans (hs57.2.2.1 _ _ (notS_c (by omega) (notS_c (by omega) (notS_c (by omega) notS_n)))))) (fun a h => funext fun i => ((hs69.2.2.2 _ _ (notS_c (by omega) (notS_c (by omega) (notS_c (by omega) (notS_c (by omega) (notS_c (by omega) notS_n)))))).trans (hs57.2.2.2 _ _ (notS_c (by omega) (notS_c (by omega) (notS_c (by omega) notS_n)))))) hrv) (by exact (htw (by omega)).2.1) (by exact FTw_t hza hRa ((hs69.2.2.1 _ _ (notS_c (by omega) (notS_c (by omega) (notS_c (by omega) (notS_c (by omega) (notS_c (by omega) notS_n))))))) (funext fun i => (hs69.2.2.1 _ _ (notS_c (by omega) (notS_c (by omega) (notS_c (by omega) (notS_c (by omega) (notS_c (by omega) notS_n))))))) (htw (by omega)).1)) (fun v74 z75 w76 p77 h78 hs79 hE80 => ?_)
      have hs81 := st_tr hs71 hs79 (sub_B rfl)
      obtain ⟨rfl, hE80⟩ := hE80
      have hac := hE80.2.2.1.1
      have hav := hE80.2.2.1.2
      have hak := hE80.2.2.2
      rw [he26] at hav
      exact r_rl rfl (po_L hs81 ⟨by omega, by omega⟩ ⟨rfl, by omega, by omega, (by first | exact ⟨hac, Or.inr ⟨hfw (by omega), w54 257, hbg.1, Or.inr ⟨w66 257, hte.1 (by omega), hav, RKP_c hu0 hak⟩⟩⟩ | exact ⟨by exact RV_c hz (fun i h1 h2 => ((hs79.2.2.1 _ _ (notS_c (by omega) (notS_c (by omega) (notS_c (by omega) (notS_c (by omega) notS_n))))).trans ((hs69.2.2.1 _ _ (notS_c (by omega) (notS_c (by omega) (notS_c (by omega) (notS_c (by omega) (notS_c (by omega) notS_n)))))).trans (hs57.2.2.1 _ _ (notS_c (by omega) (notS_c (by omega) (notS_c (by omega) notS_n))))))) (fun a h1 h2 h3 => funext fun i => ((hs79.2.2.1 _ _ (notS_c (by omega) (notS_c (by omega) (notS_c (by omega) (notS_c (by omega) notS_n))))).trans ((hs69.2.2.1 _ _ (notS_c (by omega) (notS_c (by omega) (notS_c (by omega) (notS_c (by omega) (notS_c (by omega) notS_n)))))).trans (hs57.2.2.1 _ _ (notS_c (by omega) (notS_c (by omega) (notS_c (by omega) notS_n))))))) (fun a h1 h2 => funext fun i => ((hs79.2.2.1 _ _ (notS_c (by omega) (notS_c (by omega) (notS_c (by omega) (notS_c (by omega) notS_n))))).trans ((hs69.2.2.1 _ _ (notS_c (by omega) (notS_c (by omega) (notS_c (by omega) (notS_c (by omega) (notS_c (by omega) notS_n)))))).trans (hs57.2.2.1 _ _ (notS_c (by omega) (notS_c (by omega) (notS_c (by omega) notS_n))))))) (((hs79.2.2.1 _ _ (notS_c (by omega) (notS_c (by omega) (notS_c (by omega) (notS_c (by omega) notS_n))))).trans ((hs69.2.2.1 _ _ (notS_c (by omega) (notS_c (by omega) (notS_c (by omega) (notS_c (by omega) (notS_c (by omega) notS_n)))))).trans (hs57.2.2.1 _ _ (notS_c (by omega) (notS_c (by omega) (notS_c (by omega) notS_n))))))) (((hs79.2.2.1 _ _ (notS_c (by omega) (notS_c (by omega) (notS_c (by omega) (notS_c (by omega) notS_n))))).trans ((hs69.2.2.1 _ _ (notS_c (by omega) (notS_c (by omega) (notS_c (by omega) (notS_c (by omega) (notS_c (by omega) notS_n)))))).trans (hs57.2.2.1 _ _ (notS_c (by omega) (notS_c (by omega) (notS_c (by omega) notS_n))))))) (funext fun i => ((hs79.2.2.1 _ _ (notS_c (by omega) (notS_c (by omega) (notS_c (by omega) (notS_c (by omega) notS_n))))).trans ((hs69.2.2.1 _ _ (notS_c (by omega) (notS_c (by omega) (notS_c (by omega) (notS_c (by omega) (notS_c (by omega) notS_n)))))).trans (hs57.2.2.1 _ _ (notS_c (by omega) (notS_c (by omega) (notS_c (by omega) notS_n))))))) (fun a h => funext fun i => ((hs79.2.2.2 _ _ (notS_c (by omega) (notS_c (by omega) (notS_c (by omega) (notS_c (by omega) notS_n))))).trans ((hs69.2.2.2 _ _ (notS_c (by omega) (notS_c (by omega) (notS_c (by omega) (notS_c (by omega) (notS_c (by omega) notS_n)))))).trans (hs57.2.2.2 _ _ (notS_c (by omega) (notS_c (by omega) (notS_c (by omega) notS_n))))))) hrv, Or.inr ⟨hfw (by omega), w54 257, hbg.1, Or.inl ⟨hte.2 (by omega), rfl, ⟨((hs79.2.2.1 _ _ (notS_c (by omega) (notS_c (by omega) (notS_c (by omega) (notS_c (by omega) notS_n))))).trans ((hs69.2.2.1 _ _ (notS_c (by omega) (notS_c (by omega) (notS_c (by omega) (notS_c (by omega) (notS_c (by omega) notS_n)))))).trans (hs57.2.2.1 _ _ (notS_c (by omega) (notS_c (by omega) (notS_c (by omega) notS_n)))))), ((hs79.2.2.1 _ _ (notS_c (by omega) (notS_c (by omega) (notS_c (by omega) (notS_c (by omega) notS_n))))).trans ((hs69.2.2.1 _ _ (notS_c (by omega) (notS_c (by omega) (notS_c (by omega) (notS_c (by omega) (notS_c (by omega) notS_n)))))).trans (hs57.2.2.1 _ _ (notS_c (by omega) (notS_c (by omega) (notS_c (by omega) notS_n)))))), funext fun i => ((hs79.2.2.2 _ _ (notS_c (by omega) (notS_c (by omega) (notS_c (by omega) (notS_c (by omega) notS_n))))).trans ((hs69.2.2.2 _ _ (notS_c (by omega) (notS_c (by omega) (notS_c (by omega) (notS_c (by omega) (notS_c (by omega) notS_n)))))).trans (hs57.2.2.2 _ _ (notS_c (by omega) (notS_c (by omega) (notS_c (by omega) notS_n)))))), funext fun i => ((hs79.2.2.2 _ _ (notS_c (by omega) (notS_c (by omega) (notS_c (by omega) (notS_c (by omega) notS_n))))).trans ((hs69.2.2.2 _ _ (notS_c (by omega) (notS_c (by omega) (notS_c (by omega) (notS_c (by omega) (notS_c (by omega) notS_n)))))).trans (hs57.2.2.2 _ _ (notS_c (by omega) (notS_c (by omega) (notS_c (by omega) notS_n))))))⟩⟩⟩⟩)⟩)
    · skip
      refine r_al (pc' := 32) rfl rfl rfl rfl ?_
      refine r_go rfl ?_
      exact r_rl rfl (po_L hs71 ⟨by decide, by decide⟩ ⟨rfl, by omega, by omega, (by first | exact ⟨hac, Or.inr ⟨hfw (by omega), w54 257, hbg.1, Or.inr ⟨w66 257, hte.1 (by omega), hav, RKP_c hu0 hak⟩⟩⟩ | exact ⟨by exact RV_c hz (fun i h1 h2 => ((hs69.2.2.1 _ _ (notS_c (by omega) (notS_c (by omega) (notS_c (by omega) (notS_c (by omega) (notS_c (by omega) notS_n)))))).trans (hs57.2.2.1 _ _ (notS_c (by omega) (notS_c (by omega) (notS_c (by omega) notS_n)))))) (fun a h1 h2 h3 => funext fun i => ((hs69.2.2.1 _ _ (notS_c (by omega) (notS_c (by omega) (notS_c (by omega) (notS_c (by omega) (notS_c (by omega) notS_n)))))).trans (hs57.2.2.1 _ _ (notS_c (by omega) (notS_c (by omega) (notS_c (by omega) notS_n)))))) (fun a h1 h2 => funext fun i => ((hs69.2.2.1 _ _ (notS_c (by omega) (notS_c (by omega) (notS_c (by omega) (notS_c (by omega) (notS_c (by omega) notS_n)))))).trans (hs57.2.2.1 _ _ (notS_c (by omega) (notS_c (by omega) (notS_c (by omega) notS_n)))))) (((hs69.2.2.1 _ _ (notS_c (by omega) (notS_c (by omega) (notS_c (by omega) (notS_c (by omega) (notS_c (by omega) notS_n)))))).trans (hs57.2.2.1 _ _ (notS_c (by omega) (notS_c (by omega) (notS_c (by omega) notS_n)))))) (((hs69.2.2.1 _ _ (notS_c (by omega) (notS_c (by omega) (notS_c (by omega) (notS_c (by omega) (notS_c (by omega) notS_n)))))).trans (hs57.2.2.1 _ _ (notS_c (by omega) (notS_c (by omega) (notS_c (by omega) notS_n)))))) (funext fun i => ((hs69.2.2.1 _ _ (notS_c (by omega) (notS_c (by omega) (notS_c (by omega) (notS_c (by omega) (notS_c (by omega) notS_n)))))).trans (hs57.2.2.1 _ _ (notS_c (by omega) (notS_c (by omega) (notS_c (by omega) notS_n)))))) (fun a h => funext fun i => ((hs69.2.2.2 _ _ (notS_c (by omega) (notS_c (by omega) (notS_c (by omega) (notS_c (by omega) (notS_c (by omega) notS_n)))))).trans (hs57.2.2.2 _ _ (notS_c (by omega) (notS_c (by omega) (notS_c (by omega) notS_n)))))) hrv, Or.inr ⟨hfw (by omega), w54 257, hbg.1, Or.inl ⟨hte.2 (by omega), rfl, ⟨((hs69.2.2.1 _ _ (notS_c (by omega) (notS_c (by omega) (notS_c (by omega) (notS_c (by omega) (notS_c (by omega) notS_n)))))).trans (hs57.2.2.1 _ _ (notS_c (by omega) (notS_c (by omega) (notS_c (by omega) notS_n))))), ((hs69.2.2.1 _ _ (notS_c (by omega) (notS_c (by omega) (notS_c (by omega) (notS_c (by omega) (notS_c (by omega) notS_n)))))).trans (hs57.2.2.1 _ _ (notS_c (by omega) (notS_c (by omega) (notS_c (by omega) notS_n))))), funext fun i => ((hs69.2.2.2 _ _ (notS_c (by omega) (notS_c (by omega) (notS_c (by omega) (notS_c (by omega) (notS_c (by omega) notS_n)))))).trans (hs57.2.2.2 _ _ (notS_c (by omega) (notS_c (by omega) (notS_c (by omega) notS_n))))), funext fun i => ((hs69.2.2.2 _ _ (notS_c (by omega) (notS_c (by omega) (notS_c (by omega) (notS_c (by omega) (notS_c (by omega) notS_n)))))).trans (hs57.2.2.2 _ _ (notS_c (by omega) (notS_c (by omega) (notS_c (by omega) notS_n)))))⟩⟩⟩⟩)⟩)
  · skip
    refine r_al (pc' := 11) rfl rfl rfl rfl ?_
    exact r_rl rfl (po_L hst ⟨by decide, by decide⟩ ⟨rfl, by omega, by omega, (by exact ⟨hrv, Or.inl ⟨fun q => hfx (by omega) q, rfl, RU3_r⟩⟩)⟩)
