/-! methods, printed by wip/tools/vcg.py -/
/-- LoopGroundModel findSides -/
abbrev S_195x  : mS := [(225, 225, 53, 53), (225, 225, 54, 54)]
abbrev E_195x (a1 : Int) (z0 w0 : mZ) (x y tx it mt tt ct : Option Nat) : Int → mZ → mZ → mP → Prop := fun v z w p => p = (pq x y tx it mt tt ct) ∧ 0 ≤ v ∧ v ≤ 1 ∧ (SQ (z0 225 26) (z0 255) a1 (z 225 53) (z 225 54) ∧ (v = 1 → z 225 53 / 3 ≠ z 225 54 / 3) ∧ (v = 0 → z 225 53 / 3 = z 225 54 / 3))
theorem m_195x {d : Nat} {z0 w0 : mZ} {x y tx it mt tt ct : Option Nat} (a1 : Int) (hz : rz z0) (hw : rw_ w0) (ha1 : 0 ≤ a1 ∧ a1 ≤ 17) (hly : LY (z0 225 26) (rE z0) (z0 255)) (he : a1 < rE z0) : wc (d + 1) 195 [.ref 225, .int (Int32.ofInt a1)] (mk z0 w0 (pq x y tx it mt tt ct)) (poI S_195x z0 w0 (E_195x a1 z0 w0 x y tx it mt tt ct)) := by
  have hst : st_ S_195x z0 w0 z0 w0 := st_rf hz hw
  have hz28 := rd_225_26 hz
  have hm26 := rd_225_26 hz
  have hrE : rE z0 = 3 * z0 225 26 / 2 := rfl
  have key : ∀ N : Nat, (∀ (x2 : Int) (z w : mZ), 0 ≤ x2 ∧ x2 ≤ 36 → st_ S_195x z0 w0 z w → (F1 (z0 255) a1 x2 (z 225 53) (z 225 54)) → (x2 ≤ 3 * z0 225 26) → 46 * (36 - x2) + 37 < (N : Int) → wp_ (d) 195 3 (some .boolean) (12, [(0, .ref 225), (1, .int (Int32.ofInt a1)), (2, .int (Int32.ofInt x2))], [], mk z w (pq x y tx it mt tt ct)) (poI S_195x z0 w0 (E_195x a1 z0 w0 x y tx it mt tt ct))) := by
    intro N
    induction N with
    | zero =>
      intro x2 z w
      intros; exfalso; omega
    | succ N ih =>
      have ih0 := ih; clear ih
      intro x2 z w  hx2 hst as1 as2 hM
      refine r_ld (pc' := 13) rfl rfl rfl rfl ?_
      refine r_c0 (pc' := 14) rfl rfl ?_
      refine r_ld (pc' := 15) rfl rfl rfl rfl ?_
      have hb29 := rd_225_26 hz
      refine r_gi (pc' := 18) rfl rfl sh_225 rfl (hst.2.2.1 _ _ (notS_c (by omega) (notS_c (by omega) notS_n))) ?_
      refine r_mul (pc' := 19) rfl rfl ?_
      refine r_ige (pc' := 22) rfl rfl ⟨by omega, by omega⟩ ⟨by omega, by omega⟩ (fun hc30 => ?_) (fun hc30 => ?_)
      · skip
        refine r_ld (pc' := 62) rfl rfl rfl rfl ?_
        have hb31 := rd_225_53 hst.1
        refine r_gi (pc' := 65) rfl rfl sh_225 rfl rfl ?_
        refine r_c0 (pc' := 66) rfl rfl ?_
        refine r_dvg (pc' := 67) rfl rfl ⟨by omega, by omega⟩ ⟨by decide, by decide⟩ (by decide) (fun v32 h33 h34 => ?_)
        refine r_ld (pc' := 68) rfl rfl rfl rfl ?_
        have hb35 := rd_225_54 hst.1
        refine r_gi (pc' := 71) rfl rfl sh_225 rfl rfl ?_
        refine r_c0 (pc' := 72) rfl rfl ?_
        refine r_dvg (pc' := 73) rfl rfl ⟨by omega, by omega⟩ ⟨by decide, by decide⟩ (by decide) (fun v36 h37 h38 => ?_)
        refine r_ieq (pc' := 76) rfl rfl ⟨by omega, by omega⟩ ⟨by omega, by omega⟩ (fun hc39 => ?_) (fun hc39 => ?_)
        · skip
          refine r_c0 (pc' := 81) rfl rfl ?_
          exact r_rz rfl (by omega) (po_I hst ⟨by decide, by decide⟩ ⟨rfl, by omega, by omega, (by have hsq := F1_e hly as1 (by omega) (by omega) (by omega); have g1 := hsq.1; have g2 := hsq.2.1; exact ⟨hsq, fun h => by omega, fun h => by omega⟩)⟩)
        · skip
          refine r_c0 (pc' := 77) rfl rfl ?_
          refine r_go rfl ?_
          exact r_rz rfl (by omega) (po_I hst ⟨by decide, by decide⟩ ⟨rfl, by omega, by omega, (by have hsq := F1_e hly as1 (by omega) (by omega) (by omega); have g1 := hsq.1; have g2 := hsq.2.1; exact ⟨hsq, fun h => by omega, fun h => by omega⟩)⟩)
      · skip
        refine r_ld (pc' := 23) rfl rfl rfl rfl ?_
        refine r_gr (b := 255) (pc' := 26) rfl rfl sh_225 rfl pp_225_51 ?_
        refine r_ld (pc' := 27) rfl rfl rfl rfl ?_
        have hb40 := rd_255 hz (i := x2.toNat) (by omega)
        refine r_ia (pc' := 28) rfl rfl sh_255 rfl (by omega) (by omega) (hst.2.2.1 _ _ (notS_c (by omega) (notS_c (by omega) notS_n))) ?_
        refine r_ld (pc' := 29) rfl rfl rfl rfl ?_
        refine r_ieq (pc' := 32) rfl rfl ⟨by omega, by omega⟩ ⟨by omega, by omega⟩ (fun hc41 => ?_) (fun hc41 => ?_)
        · skip
          refine r_ld (pc' := 36) rfl rfl rfl rfl ?_
          have hb42 := rd_225_53 hst.1
          refine r_gi (pc' := 39) rfl rfl sh_225 rfl rfl ?_
          refine r_zge (pc' := 42) rfl rfl ⟨by omega, by omega⟩ (fun hc43 => ?_) (fun hc43 => ?_)
          · skip
            refine r_ld (pc' := 51) rfl rfl rfl rfl ?_
            refine r_ld (pc' := 52) rfl rfl rfl rfl ?_
            refine r_pi (pc' := 55) rfl rfl sh_225 rfl rfl hst (inS_s (inS_0 (by omega) (by omega) (by omega) (by omega))) (wr_225_54 ⟨by omega, by omega⟩) (fun z44 hq45 hs46 => ?_)
            refine r_inc (pc' := 58) (lv' := [(0, _), (1, _)]) rfl rfl rfl rfl rfl ?_
            refine r_go rfl ?_
            have hf47 : z44 225 53 = z 225 53 := ((congrFun (congrFun hq45 _) _).trans (mu_ne (by omega)))
            have hf48 : z44 225 54 = x2 := ((congrFun (congrFun hq45 _) _).trans mu_eq)
            exact w_lv (sub_c rfl (sub_c rfl (sub_c rfl sub_n))) rfl (ih0 (x2 + 1) z44 w ⟨by omega, by omega⟩ hs46 (by first | exact F1_n as1 (by omega) (by omega) | (simp only [hf47, hf48]; first | exact F1_0 | exact F1_a as1 (by omega) (by omega) (by omega) | exact F1_b hly as1 (by omega) (by omega) (by omega) (by omega))) (by first | omega | assumption | (simp only [hf47, hf48]; assumption)) (by omega))
          · skip
            refine r_ld (pc' := 43) rfl rfl rfl rfl ?_
            refine r_ld (pc' := 44) rfl rfl rfl rfl ?_
            refine r_pi (pc' := 47) rfl rfl sh_225 rfl rfl hst (inS_0 (by omega) (by omega) (by omega) (by omega)) (wr_225_53 ⟨by omega, by omega⟩) (fun z49 hq50 hs51 => ?_)
            refine r_go rfl ?_
            refine r_inc (pc' := 58) (lv' := [(0, _), (1, _)]) rfl rfl rfl rfl rfl ?_
            refine r_go rfl ?_
            have hf52 : z49 225 53 = x2 := ((congrFun (congrFun hq50 _) _).trans mu_eq)
            have hb53 := rd_225_54 hst.1
            have hf54 : z49 225 54 = z 225 54 := ((congrFun (congrFun hq50 _) _).trans (mu_ne (by omega)))
            exact w_lv (sub_c rfl (sub_c rfl (sub_c rfl sub_n))) rfl (ih0 (x2 + 1) z49 w ⟨by omega, by omega⟩ hs51 (by first | exact F1_n as1 (by omega) (by omega) | (simp only [hf52, hf54]; first | exact F1_0 | exact F1_a as1 (by omega) (by omega) (by omega) | exact F1_b hly as1 (by omega) (by omega) (by omega) (by omega))) (by first | omega | assumption | (simp only [hf52, hf54]; assumption)) (by omega))
        · skip
          refine r_go rfl ?_
          refine r_inc (pc' := 58) (lv' := [(0, _), (1, _)]) rfl rfl rfl rfl rfl ?_
          refine r_go rfl ?_
          have hb55 := rd_225_53 hst.1
          have hb56 := rd_225_54 hst.1
          exact w_lv (sub_c rfl (sub_c rfl (sub_c rfl sub_n))) rfl (ih0 (x2 + 1) z w ⟨by omega, by omega⟩ hst (by first | exact F1_n as1 (by omega) (by omega) | (simp only []; first | exact F1_0 | exact F1_a as1 (by omega) (by omega) (by omega) | exact F1_b hly as1 (by omega) (by omega) (by omega) (by omega))) (by first | omega | assumption) (by omega))
  refine w_m rfl rfl ?_
  refine r_ld (pc' := 1) rfl rfl rfl rfl ?_
  refine r_c0 (pc' := 2) rfl rfl ?_
  refine r_pi (pc' := 5) rfl rfl sh_225 rfl rfl hst (inS_0 (by omega) (by omega) (by omega) (by omega)) (wr_225_53 ⟨by omega, by omega⟩) (fun z57 hq58 hs59 => ?_)
  refine r_ld (pc' := 6) rfl rfl rfl rfl ?_
  refine r_c0 (pc' := 7) rfl rfl ?_
  refine r_pi (pc' := 10) rfl rfl sh_225 rfl rfl hs59 (inS_s (inS_0 (by omega) (by omega) (by omega) (by omega))) (wr_225_54 ⟨by omega, by omega⟩) (fun z60 hq61 hs62 => ?_)
  refine r_c0 (pc' := 11) rfl rfl ?_
  refine r_st (pc' := 12) (lv' := [(2, _), (0, _), (1, _)]) rfl rfl rfl rfl ?_
  have hf63 : z60 225 53 = (-1) := (((congrFun (congrFun hq61 _) _).trans (mu_ne (by omega))).trans ((congrFun (congrFun hq58 _) _).trans mu_eq))
  have hf64 : z60 225 54 = (-1) := ((congrFun (congrFun hq61 _) _).trans mu_eq)
  exact w_lv (sub_c rfl (sub_c rfl (sub_c rfl sub_n))) rfl ((key ((46 * (36 - 0) + 37 : Int).toNat + 1)) 0 z60 w0 ⟨by omega, by omega⟩ hs62 (by first | exact F1_n as1 (by omega) (by omega) | (simp only [hf63, hf64]; first | exact F1_0 | exact F1_a as1 (by omega) (by omega) (by omega) | exact F1_b hly as1 (by omega) (by omega) (by omega) (by omega))) (by first | omega | assumption | (simp only [hf63, hf64]; assumption)) (by omega))
/-- LoopGroundModel isShort -/
abbrev S_197x  : mS := []
abbrev E_197x  (z0 w0 : mZ) (x y tx it mt tt ct : Option Nat) : Int → mZ → mZ → mP → Prop := fun v z w p => p = (pq x y tx it mt tt ct) ∧ z0 = z ∧ w0 = w ∧ 0 ≤ v ∧ v ≤ 1 ∧ ((v = 1 → SHs (rE z0) (nS z0)) ∧ (v = 0 → ¬ SHs (rE z0) (nS z0)))
theorem m_197x {d : Nat} {z0 w0 : mZ} {x y tx it mt tt ct : Option Nat}  (hz : rz z0) (hw : rw_ w0) : wc (d + 2) 197 [.ref 225] (mk z0 w0 (pq x y tx it mt tt ct)) (poI S_197x z0 w0 (E_197x  z0 w0 x y tx it mt tt ct)) := by
  have hst : st_ S_197x z0 w0 z0 w0 := st_rf hz hw
  have hm26 := rd_225_26 hz
  have hrE : rE z0 = 3 * z0 225 26 / 2 := rfl
  have key : ∀ N : Nat, (∀ (x1 x2 x3 : Int) , 0 ≤ x1 ∧ x1 ≤ 179982 → 0 ≤ x2 ∧ x2 ≤ 1 → 0 ≤ x3 ∧ x3 ≤ 18 → (x1 = sm (nS z0) x3.toNat ∧ x1 ≤ 9999 * x3) → (x2 = 1 → ∀ e : Nat, (e : Int) < x3 → z0 256 e ≤ 1) → (x3 ≤ rE z0) → (x2 = 0 → GT1 (z0 256) x3.toNat) → 40 * (18 - x3) + 33 < (N : Int) → wp_ (d + 1) 197 4 (some .boolean) (6, [(0, .ref 225), (1, .int (Int32.ofInt x1)), (2, .int (Int32.ofInt x2)), (3, .int (Int32.ofInt x3))], [], mk z0 w0 (pq x y tx it mt tt ct)) (poI S_197x z0 w0 (E_197x  z0 w0 x y tx it mt tt ct))) := by
    intro N
    induction N with
    | zero =>
      intro x1 x2 x3 
      intros; exfalso; omega
    | succ N ih =>
      have ih0 := ih; clear ih
      intro x1 x2 x3  hx1 hx2 hx3 as1 as2 as3 as4 hM
      refine r_ld (pc' := 7) rfl rfl rfl rfl ?_
      refine r_ld (pc' := 8) rfl rfl rfl rfl ?_
      have hb16 := rd_225_26 hz
      refine r_cVI (pc' := 11) rfl rfl rfl rfl rfl sh_225 (m_161 (d := d)  hst.1 hst.2.1 ) (fun v17 z18 w19 p20 h21 hs22 hE23 => ?_)
      obtain ⟨rfl, rfl, rfl, hE23⟩ := hE23
      refine r_ige (pc' := 14) rfl rfl ⟨by omega, by omega⟩ ⟨by omega, by omega⟩ (fun hc25 => ?_) (fun hc25 => ?_)
      · skip
        refine r_ld (pc' := 50) rfl rfl rfl rfl ?_
        refine r_zeq (pc' := 53) rfl rfl ⟨by omega, by omega⟩ (fun hc26 => ?_) (fun hc26 => ?_)
        · skip
          refine r_c0 (pc' := 63) rfl rfl ?_
          exact r_rz rfl (by omega) (po_I hst ⟨by decide, by decide⟩ ⟨rfl, rfl, rfl, by omega, by omega, (by first | exact ⟨fun h => by exfalso; omega, fun _ => GT1_x (as4 (by omega)) (by omega)⟩ | exact ⟨fun h => by exfalso; omega, fun _ q => by have := q.2; rw [show (rE z0).toNat = x3.toNat by omega] at this; omega⟩ | exact ⟨fun _ => ⟨fun e he => by show tr (rE z0) (z0 256) e ≤ 1; rw [tr_l he]; exact as2 (by omega) e (by omega), by rw [show (rE z0).toNat = x3.toNat by omega]; omega⟩, fun h => by exfalso; omega⟩)⟩)
        · skip
          refine r_ld (pc' := 54) rfl rfl rfl rfl ?_
          refine r_c0 (pc' := 55) rfl rfl ?_
          refine r_ine (pc' := 58) rfl rfl ⟨by omega, by omega⟩ ⟨by decide, by decide⟩ (fun hc27 => ?_) (fun hc27 => ?_)
          · skip
            refine r_c0 (pc' := 63) rfl rfl ?_
            exact r_rz rfl (by omega) (po_I hst ⟨by decide, by decide⟩ ⟨rfl, rfl, rfl, by omega, by omega, (by first | exact ⟨fun h => by exfalso; omega, fun _ => GT1_x (as4 (by omega)) (by omega)⟩ | exact ⟨fun h => by exfalso; omega, fun _ q => by have := q.2; rw [show (rE z0).toNat = x3.toNat by omega] at this; omega⟩ | exact ⟨fun _ => ⟨fun e he => by show tr (rE z0) (z0 256) e ≤ 1; rw [tr_l he]; exact as2 (by omega) e (by omega), by rw [show (rE z0).toNat = x3.toNat by omega]; omega⟩, fun h => by exfalso; omega⟩)⟩)
          · skip
            refine r_c0 (pc' := 59) rfl rfl ?_
            refine r_go rfl ?_
            exact r_rz rfl (by omega) (po_I hst ⟨by decide, by decide⟩ ⟨rfl, rfl, rfl, by omega, by omega, (by first | exact ⟨fun h => by exfalso; omega, fun _ => GT1_x (as4 (by omega)) (by omega)⟩ | exact ⟨fun h => by exfalso; omega, fun _ q => by have := q.2; rw [show (rE z0).toNat = x3.toNat by omega] at this; omega⟩ | exact ⟨fun _ => ⟨fun e he => by show tr (rE z0) (z0 256) e ≤ 1; rw [tr_l he]; exact as2 (by omega) e (by omega), by rw [show (rE z0).toNat = x3.toNat by omega]; omega⟩, fun h => by exfalso; omega⟩)⟩)
      · skip
        have hgt : nS z0 x3.toNat = z0 256 x3.toNat := tr_l (by omega)
        refine r_ld (pc' := 15) rfl rfl rfl rfl ?_
        refine r_ld (pc' := 16) rfl rfl rfl rfl ?_
        refine r_gr (b := 256) (pc' := 19) rfl rfl sh_225 rfl pp_225_52 ?_
        refine r_ld (pc' := 20) rfl rfl rfl rfl ?_
        have hb28 := rd_256 hz (i := x3.toNat) (by omega)
        refine r_ia (pc' := 21) rfl rfl sh_256 rfl (by omega) (by omega) rfl ?_
        refine r_add (pc' := 22) rfl rfl ?_
        refine r_st (pc' := 23) (lv' := [(1, _), (0, _), (2, _), (3, _)]) rfl rfl rfl rfl ?_
        refine r_ld (pc' := 24) rfl rfl rfl rfl ?_
        refine r_zeq (pc' := 27) rfl rfl ⟨by omega, by omega⟩ (fun hc29 => ?_) (fun hc29 => ?_)
        · skip
          refine r_c0 (pc' := 42) rfl rfl ?_
          refine r_st (pc' := 43) (lv' := [(2, _), (1, _), (0, _), (3, _)]) rfl rfl rfl rfl ?_
          refine r_inc (pc' := 46) (lv' := [(2, _), (1, _), (0, _)]) rfl rfl rfl rfl rfl ?_
          refine r_go rfl ?_
          exact w_lv (sub_c rfl (sub_c rfl (sub_c rfl (sub_c rfl sub_n)))) rfl (ih0 (x1 + (z0 256 x3.toNat)) 0 (x3 + 1) ⟨by omega, by omega⟩ ⟨by omega, by omega⟩ ⟨by omega, by omega⟩ (by first | exact ⟨rfl, by omega⟩ | (refine ⟨?_, by omega⟩; rw [show (x3 + 1).toNat = x3.toNat + 1 by omega, sm_s]; omega)) (by first | (intro h; exfalso; omega) | (intro _ e he; exfalso; omega) | (intro _ e he; by_cases c : e = x3.toNat; (subst c; omega); exact as2 (by omega) e (by omega))) (by first | omega | assumption) (by first | (intro h; exfalso; omega) | exact fun h => GT1_k (as4 (by omega)) (by omega) | exact fun _ => GT1_n (e := x3.toNat) (by omega) (by omega)) (by omega))
        · skip
          refine r_ld (pc' := 28) rfl rfl rfl rfl ?_
          refine r_gr (b := 256) (pc' := 31) rfl rfl sh_225 rfl pp_225_52 ?_
          refine r_ld (pc' := 32) rfl rfl rfl rfl ?_
          refine r_ia (pc' := 33) rfl rfl sh_256 rfl (by omega) (by omega) rfl ?_
          refine r_c0 (pc' := 34) rfl rfl ?_
          refine r_ige (pc' := 37) rfl rfl ⟨by omega, by omega⟩ ⟨by decide, by decide⟩ (fun hc30 => ?_) (fun hc30 => ?_)
          · skip
            refine r_c0 (pc' := 42) rfl rfl ?_
            refine r_st (pc' := 43) (lv' := [(2, _), (1, _), (0, _), (3, _)]) rfl rfl rfl rfl ?_
            refine r_inc (pc' := 46) (lv' := [(2, _), (1, _), (0, _)]) rfl rfl rfl rfl rfl ?_
            refine r_go rfl ?_
            exact w_lv (sub_c rfl (sub_c rfl (sub_c rfl (sub_c rfl sub_n)))) rfl (ih0 (x1 + (z0 256 x3.toNat)) 0 (x3 + 1) ⟨by omega, by omega⟩ ⟨by omega, by omega⟩ ⟨by omega, by omega⟩ (by first | exact ⟨rfl, by omega⟩ | (refine ⟨?_, by omega⟩; rw [show (x3 + 1).toNat = x3.toNat + 1 by omega, sm_s]; omega)) (by first | (intro h; exfalso; omega) | (intro _ e he; exfalso; omega) | (intro _ e he; by_cases c : e = x3.toNat; (subst c; omega); exact as2 (by omega) e (by omega))) (by first | omega | assumption) (by first | (intro h; exfalso; omega) | exact fun h => GT1_k (as4 (by omega)) (by omega) | exact fun _ => GT1_n (e := x3.toNat) (by omega) (by omega)) (by omega))
          · skip
            refine r_c0 (pc' := 38) rfl rfl ?_
            refine r_go rfl ?_
            refine r_st (pc' := 43) (lv' := [(2, _), (1, _), (0, _), (3, _)]) rfl rfl rfl rfl ?_
            refine r_inc (pc' := 46) (lv' := [(2, _), (1, _), (0, _)]) rfl rfl rfl rfl rfl ?_
            refine r_go rfl ?_
            exact w_lv (sub_c rfl (sub_c rfl (sub_c rfl (sub_c rfl sub_n)))) rfl (ih0 (x1 + (z0 256 x3.toNat)) 1 (x3 + 1) ⟨by omega, by omega⟩ ⟨by omega, by omega⟩ ⟨by omega, by omega⟩ (by first | exact ⟨rfl, by omega⟩ | (refine ⟨?_, by omega⟩; rw [show (x3 + 1).toNat = x3.toNat + 1 by omega, sm_s]; omega)) (by first | (intro h; exfalso; omega) | (intro _ e he; exfalso; omega) | (intro _ e he; by_cases c : e = x3.toNat; (subst c; omega); exact as2 (by omega) e (by omega))) (by first | omega | assumption) (by first | (intro h; exfalso; omega) | exact fun h => GT1_k (as4 (by omega)) (by omega) | exact fun _ => GT1_n (e := x3.toNat) (by omega) (by omega)) (by omega))
  refine w_m rfl rfl ?_
  refine r_c0 (pc' := 1) rfl rfl ?_
  refine r_st (pc' := 2) (lv' := [(1, _), (0, _)]) rfl rfl rfl rfl ?_
  refine r_c0 (pc' := 3) rfl rfl ?_
  refine r_st (pc' := 4) (lv' := [(2, _), (1, _), (0, _)]) rfl rfl rfl rfl ?_
  refine r_c0 (pc' := 5) rfl rfl ?_
  refine r_st (pc' := 6) (lv' := [(3, _), (2, _), (1, _), (0, _)]) rfl rfl rfl rfl ?_
  exact w_lv (sub_c rfl (sub_c rfl (sub_c rfl (sub_c rfl sub_n)))) rfl ((key ((40 * (18 - 0) + 33 : Int).toNat + 1)) 0 1 0 ⟨by omega, by omega⟩ ⟨by omega, by omega⟩ ⟨by omega, by omega⟩ (by first | exact ⟨rfl, by omega⟩ | (refine ⟨?_, by omega⟩; rw [show (x3 + 1).toNat = x3.toNat + 1 by omega, sm_s]; omega)) (by first | (intro h; exfalso; omega) | (intro _ e he; exfalso; omega) | (intro _ e he; by_cases c : e = x3.toNat; (subst c; omega); exact as2 (by omega) e (by omega))) (by first | omega | assumption) (by first | (intro h; exfalso; omega) | exact fun h => GT1_k (as4 (by omega)) (by omega) | exact fun _ => GT1_n (e := x3.toNat) (by omega) (by omega)) (by omega))
/-- LoopGroundModel layShort -/
abbrev S_201x  : mS := [(250, 250, 0, 7), (249, 249, 0, 7), (252, 252, 0, 7), (251, 251, 0, 7)]
abbrev E_201x (a1 : Int) (z0 w0 : mZ) (x y tx it mt tt ct : Option Nat) : mZ → mZ → mP → Prop := fun z w p => p = (pq x y tx it mt tt ct) ∧ (((∃ u v, u < 3 * (z0 225 26).toNat ∧ v < 3 * (z0 225 26).toNat ∧ u ≠ v ∧ CO (vT (z0 255)) (nS z0) u ∧ CO (vT (z0 255)) (nS z0) v) → ENb (z0 225 26).toNat (vT (z0 255)) (nS z0) (z 251 a1.toNat).toNat (z 252 a1.toNat).toNat (z 249 a1.toNat).toNat (z 250 a1.toNat).toNat) ∧ ∀ j : Nat, j ≠ a1.toNat → z 249 j = z0 249 j ∧ z 250 j = z0 250 j ∧ z 251 j = z0 251 j ∧ z 252 j = z0 252 j)
theorem m_201x {d : Nat} {z0 w0 : mZ} {x y tx it mt tt ct : Option Nat} (a1 : Int) (hz : rz z0) (hw : rw_ w0) (ha1 : 0 ≤ a1 ∧ a1 ≤ 7) (hly : LY (z0 225 26) (rE z0) (z0 255)) (hs1 : ∀ e : Nat, (e : Int) < rE z0 → nS z0 e ≤ 1) : wc (d + 2) 201 [.ref 225, .int (Int32.ofInt a1)] (mk z0 w0 (pq x y tx it mt tt ct)) (poV S_201x z0 w0 (E_201x a1 z0 w0 x y tx it mt tt ct)) := by
  have hst : st_ S_201x z0 w0 z0 w0 := st_rf hz hw
  have hz47 := rd_225_26 hz
  have hm26 := rd_225_26 hz
  have hrE : rE z0 = 3 * z0 225 26 / 2 := rfl
  have key : ∀ N : Nat, (∀ (x2 x3 : Int) (z w : mZ), 0 ≤ x2 ∧ x2 ≤ 1 → 0 ≤ x3 ∧ x3 ≤ 12 → st_ S_201x z0 w0 z w → (NBq (z0 255) (nS z0) x2 x3 (z 251 a1.toNat) (z 252 a1.toNat) (z 249 a1.toNat) (z 250 a1.toNat)) → (x3 ≤ z0 225 26) → (∀ j : Nat, j ≠ a1.toNat → z 249 j = z0 249 j ∧ z 250 j = z0 250 j ∧ z 251 j = z0 251 j ∧ z 252 j = z0 252 j) → 3914 * (12 - x3) + 3909 < (N : Int) → wp_ (d + 1) 201 6 none (4, [(0, .ref 225), (1, .int (Int32.ofInt a1)), (2, .int (Int32.ofInt x2)), (3, .int (Int32.ofInt x3))], [], mk z w (pq x y tx it mt tt ct)) (poV S_201x z0 w0 (E_201x a1 z0 w0 x y tx it mt tt ct))) ∧ (∀ (x2 x3 x5 : Int) (z w : mZ), 0 ≤ x2 ∧ x2 ≤ 1 → 0 ≤ x3 ∧ x3 ≤ 11 → 0 ≤ x5 ∧ x5 ≤ 35 → 1 ≤ z0 225 26 ∧ z0 225 26 ≤ 12 → st_ S_201x z0 w0 z w → (NBq (z0 255) (nS z0) x2 x3 (z 251 a1.toNat) (z 252 a1.toNat) (z 249 a1.toNat) (z 250 a1.toNat)) → (x3 < z0 225 26 ∧ 3 * x3 ≤ x5 ∧ x5 ≤ 3 * x3 + 2) → ((z0 256 (z0 255 (3 * x3).toNat).toNat + z0 256 (z0 255 (3 * x3 + 1).toNat).toNat + z0 256 (z0 255 (3 * x3 + 2).toNat).toNat = 2)) → (∀ k : Nat, 3 * x3 ≤ (k : Int) → (k : Int) < x5 → 0 < z0 256 (z0 255 k).toNat) → (∀ j : Nat, j ≠ a1.toNat → z 249 j = z0 249 j ∧ z 250 j = z0 250 j ∧ z 251 j = z0 251 j ∧ z 252 j = z0 252 j) → 3914 * (12 - x3) + 103 * (35 - x5) + 52 < (N : Int) → wp_ (d + 1) 201 6 none (73, [(0, .ref 225), (1, .int (Int32.ofInt a1)), (2, .int (Int32.ofInt x2)), (3, .int (Int32.ofInt x3)), (5, .int (Int32.ofInt x5))], [], mk z w (pq x y tx it mt tt ct)) (poV S_201x z0 w0 (E_201x a1 z0 w0 x y tx it mt tt ct))) := by
    intro N
    induction N with
    | zero =>
      refine ⟨?_, ?_⟩
      · intro x2 x3 z w
        intros; exfalso; omega
      · intro x2 x3 x5 z w
        intros; exfalso; omega
    | succ N ih =>
      obtain ⟨ih0, ih1⟩ := ih
      refine ⟨?_, ?_⟩
      · intro x2 x3 z w  hx2 hx3 hst as1 as2 as5 hM
        refine r_ld (pc' := 5) rfl rfl rfl rfl ?_
        refine r_ld (pc' := 6) rfl rfl rfl rfl ?_
        have hb48 := rd_225_26 hz
        refine r_gi (pc' := 9) rfl rfl sh_225 rfl (hst.2.2.1 _ _ (notS_c (by omega) (notS_c (by omega) (notS_c (by omega) (notS_c (by omega) notS_n))))) ?_
        refine r_ige (pc' := 12) rfl rfl ⟨by omega, by omega⟩ ⟨by omega, by omega⟩ (fun hc49 => ?_) (fun hc49 => ?_)
        · skip
          exact r_ret rfl (po_V hst ⟨rfl, (by exact ⟨NBq_e as1 (by omega) (by omega) (by omega), as5⟩)⟩)
        · skip
          refine r_ld (pc' := 13) rfl rfl rfl rfl ?_
          have n0 := nS_T hly (s := (3 * x3).toNat) (by omega)
          have n1 := nS_T hly (s := (3 * x3 + 1).toNat) (by omega)
          have n2 := nS_T hly (s := (3 * x3 + 2).toNat) (by omega)
          have t0 : (3 * x3).toNat = 3 * x3.toNat := by omega
          have t1 : (3 * x3 + 1).toNat = 3 * x3.toNat + 1 := by omega
          have t2 : (3 * x3 + 2).toNat = 3 * x3.toNat + 2 := by omega
          refine r_gr (b := 256) (pc' := 16) rfl rfl sh_225 rfl pp_225_52 ?_
          refine r_ld (pc' := 17) rfl rfl rfl rfl ?_
          refine r_gr (b := 255) (pc' := 20) rfl rfl sh_225 rfl pp_225_51 ?_
          refine r_c0 (pc' := 21) rfl rfl ?_
          refine r_ld (pc' := 22) rfl rfl rfl rfl ?_
          refine r_mul (pc' := 23) rfl rfl ?_
          have hb50 := rd_255 hz (i := (3 * x3).toNat) (by omega)
          refine r_ia (pc' := 24) rfl rfl sh_255 rfl (by omega) (by omega) (hst.2.2.1 _ _ (notS_c (by omega) (notS_c (by omega) (notS_c (by omega) (notS_c (by omega) notS_n))))) ?_
          have hb51 := rd_256 hz (i := (z0 255 (3 * x3).toNat).toNat) (by omega)
          refine r_ia (pc' := 25) rfl rfl sh_256 rfl (by omega) (by omega) (hst.2.2.1 _ _ (notS_c (by omega) (notS_c (by omega) (notS_c (by omega) (notS_c (by omega) notS_n))))) ?_
          refine r_ld (pc' := 26) rfl rfl rfl rfl ?_
          refine r_gr (b := 256) (pc' := 29) rfl rfl sh_225 rfl pp_225_52 ?_
          refine r_ld (pc' := 30) rfl rfl rfl rfl ?_
          refine r_gr (b := 255) (pc' := 33) rfl rfl sh_225 rfl pp_225_51 ?_
          refine r_c0 (pc' := 34) rfl rfl ?_
          refine r_ld (pc' := 35) rfl rfl rfl rfl ?_
          refine r_mul (pc' := 36) rfl rfl ?_
          refine r_c0 (pc' := 37) rfl rfl ?_
          refine r_add (pc' := 38) rfl rfl ?_
          have hb52 := rd_255 hz (i := ((3 * x3) + 1).toNat) (by omega)
          refine r_ia (pc' := 39) rfl rfl sh_255 rfl (by omega) (by omega) (hst.2.2.1 _ _ (notS_c (by omega) (notS_c (by omega) (notS_c (by omega) (notS_c (by omega) notS_n))))) ?_
          have hb53 := rd_256 hz (i := (z0 255 ((3 * x3) + 1).toNat).toNat) (by omega)
          refine r_ia (pc' := 40) rfl rfl sh_256 rfl (by omega) (by omega) (hst.2.2.1 _ _ (notS_c (by omega) (notS_c (by omega) (notS_c (by omega) (notS_c (by omega) notS_n))))) ?_
          refine r_add (pc' := 41) rfl rfl ?_
          refine r_ld (pc' := 42) rfl rfl rfl rfl ?_
          refine r_gr (b := 256) (pc' := 45) rfl rfl sh_225 rfl pp_225_52 ?_
          refine r_ld (pc' := 46) rfl rfl rfl rfl ?_
          refine r_gr (b := 255) (pc' := 49) rfl rfl sh_225 rfl pp_225_51 ?_
          refine r_c0 (pc' := 50) rfl rfl ?_
          refine r_ld (pc' := 51) rfl rfl rfl rfl ?_
          refine r_mul (pc' := 52) rfl rfl ?_
          refine r_c0 (pc' := 53) rfl rfl ?_
          refine r_add (pc' := 54) rfl rfl ?_
          have hb54 := rd_255 hz (i := ((3 * x3) + 2).toNat) (by omega)
          refine r_ia (pc' := 55) rfl rfl sh_255 rfl (by omega) (by omega) (hst.2.2.1 _ _ (notS_c (by omega) (notS_c (by omega) (notS_c (by omega) (notS_c (by omega) notS_n))))) ?_
          have hb55 := rd_256 hz (i := (z0 255 ((3 * x3) + 2).toNat).toNat) (by omega)
          refine r_ia (pc' := 56) rfl rfl sh_256 rfl (by omega) (by omega) (hst.2.2.1 _ _ (notS_c (by omega) (notS_c (by omega) (notS_c (by omega) (notS_c (by omega) notS_n))))) ?_
          refine r_add (pc' := 57) rfl rfl ?_
          refine r_st (pc' := 59) (lv' := [(4, _), (0, _), (1, _), (2, _), (3, _)]) rfl rfl rfl rfl ?_
          refine r_ld (pc' := 61) rfl rfl rfl rfl ?_
          refine r_c0 (pc' := 62) rfl rfl ?_
          refine r_ieq (pc' := 65) rfl rfl ⟨by omega, by omega⟩ ⟨by decide, by decide⟩ (fun hc56 => ?_) (fun hc56 => ?_)
          · skip
            refine r_c0 (pc' := 69) rfl rfl ?_
            refine r_ld (pc' := 70) rfl rfl rfl rfl ?_
            refine r_mul (pc' := 71) rfl rfl ?_
            refine r_st (pc' := 73) (lv' := [(5, _), (4, _), (0, _), (1, _), (2, _), (3, _)]) rfl rfl rfl rfl ?_
            exact w_lv (sub_c rfl (sub_c rfl (sub_c rfl (sub_c rfl (sub_c rfl sub_n))))) rfl (ih1 x2 x3 (3 * x3) z w ⟨by omega, by omega⟩ ⟨by omega, by omega⟩ ⟨by omega, by omega⟩ ⟨by omega, by omega⟩ hst (by exact as1) (by first | omega | assumption) (by first | omega | assumption) (by first | (intro k g0 g1; exfalso; omega) | (intro k g0 g1; by_cases c : k = x5.toNat; (subst c; omega); exact as4 k g0 (by omega))) (by exact as5) (by omega))
          · skip
            refine r_go rfl ?_
            refine r_inc (pc' := 163) (lv' := [(4, _), (0, _), (1, _), (2, _)]) rfl rfl rfl rfl rfl ?_
            refine r_go rfl ?_
            exact w_lv (sub_c rfl (sub_c rfl (sub_c rfl (sub_c rfl sub_n)))) rfl (ih0 x2 (x3 + 1) z w ⟨by omega, by omega⟩ ⟨by omega, by omega⟩ hst (by first | exact NBq_0 | exact NBq_n as1 (fun u g0 g1 c => by have q := co_sum c (p := x3.toNat) (by omega) (by omega); rw [← t1, ← t2, ← t0, n0, n1, n2] at q; omega) | exact NBq_s (s := x5.toNat) as1 (by omega) (by omega) (by omega) hco.1 (fun u g0 g1 c => hco.2 u (by omega) (by omega) c) (by first | (rw [show z 251 a1.toNat = NOMARK 251 a1.toNat from NOMARK, hqA, mu_eq, if_pos (by omega)]) | (rw [if_neg (by omega)]; exact rfl)) (by rw [hqB]; exact mu_eq) (by rw [show z 250 a1.toNat = NOMARK 250 a1.toNat from NOMARK, hqF, mu_eq, h106]) (by rw [show z 249 a1.toNat = NOMARK 249 a1.toNat from NOMARK, hqE, mu_eq, h123])) (by first | omega | assumption) (by first | exact as5 | exact fun j hj => ⟨rfl, rfl, rfl, rfl⟩ | exact fun j hj => ⟨(rfl).trans (as5 j hj).1, (rfl).trans (as5 j hj).2.1, (rfl).trans (as5 j hj).2.2.1, (rfl).trans (as5 j hj).2.2.2⟩) (by omega))
      · intro x2 x3 x5 z w  hx2 hx3 hx5 hz0_0 hst as1 as2 as3 as4 as5 hM
        have n0 := nS_T hly (s := (3 * x3).toNat) (by omega)
        have n1 := nS_T hly (s := (3 * x3 + 1).toNat) (by omega)
        have n2 := nS_T hly (s := (3 * x3 + 2).toNat) (by omega)
        have t0 : (3 * x3).toNat = 3 * x3.toNat := by omega
        have t1 : (3 * x3 + 1).toNat = 3 * x3.toNat + 1 := by omega
        have t2 : (3 * x3 + 2).toNat = 3 * x3.toNat + 2 := by omega
        have hv3 : ∀ k, k < 3 → 0 ≤ nS z0 (vT (z0 255) (3 * x3.toNat + k)) ∧ nS z0 (vT (z0 255) (3 * x3.toNat + k)) ≤ 1 := (fun k hk => by have q := nS_T hly (s := 3 * x3.toNat + k) (by omega); have r := hly.2.2.2.1 (3 * x3.toNat + k) (by omega); have o := hs1 (vT (z0 255) (3 * x3.toNat + k)) (by show (((z0 255 (3 * x3.toNat + k)).toNat : Nat) : Int) < _; omega); exact ⟨by rw [q]; exact (rd_256 hz (i := (z0 255 (3 * x3.toNat + k)).toNat) (by omega)).1, o⟩)
        have hval := co_mk (T := vT (z0 255)) (n := nS z0) (p := x3.toNat) (s := x5.toNat) hv3 (by rw [← t1, ← t2, ← t0, n0, n1, n2]; exact as3) (by omega) (by omega)
        have n5 := nS_T hly (s := x5.toNat) (by omega)
        have hw0 := hv3 0 (by omega)
        have hw1 := hv3 1 (by omega)
        have hw2 := hv3 2 (by omega)
        rw [Nat.add_zero, ← t0, n0] at hw0
        rw [← t1, n1] at hw1
        rw [← t2, n2] at hw2
        refine r_ld (pc' := 74) rfl rfl rfl rfl ?_
        refine r_gr (b := 256) (pc' := 77) rfl rfl sh_225 rfl pp_225_52 ?_
        refine r_ld (pc' := 78) rfl rfl rfl rfl ?_
        refine r_gr (b := 255) (pc' := 81) rfl rfl sh_225 rfl pp_225_51 ?_
        refine r_ld (pc' := 83) rfl rfl rfl rfl ?_
        have hb57 := rd_255 hz (i := x5.toNat) (by omega)
        refine r_ia (pc' := 84) rfl rfl sh_255 rfl (by omega) (by omega) (hst.2.2.1 _ _ (notS_c (by omega) (notS_c (by omega) (notS_c (by omega) (notS_c (by omega) notS_n))))) ?_
        have hb58 := rd_256 hz (i := (z0 255 x5.toNat).toNat) (by omega)
        refine r_ia (pc' := 85) rfl rfl sh_256 rfl (by omega) (by omega) (hst.2.2.1 _ _ (notS_c (by omega) (notS_c (by omega) (notS_c (by omega) (notS_c (by omega) notS_n))))) ?_
        refine r_zle (pc' := 88) rfl rfl ⟨by omega, by omega⟩ (fun hc59 => ?_) (fun hc59 => ?_)
        · skip
          refine r_ld (pc' := 95) rfl rfl rfl rfl ?_
          refine r_gr (b := 250) (pc' := 98) rfl rfl sh_225 rfl pp_225_46 ?_
          refine r_ld (pc' := 99) rfl rfl rfl rfl ?_
          refine r_ld (pc' := 100) rfl rfl rfl rfl ?_
          refine r_gr (b := 255) (pc' := 103) rfl rfl sh_225 rfl pp_225_51 ?_
          refine r_ld (pc' := 105) rfl rfl rfl rfl ?_
          refine r_c0 (pc' := 106) rfl rfl ?_
          refine r_cSI (pc' := 109) rfl rfl rfl rfl rfl (m_177v (d := d) x5 1 hst.1 hst.2.1 ⟨by omega, by omega⟩ ⟨by omega, by omega⟩) (fun v60 z61 w62 p63 h64 hs65 hE66 => ?_)
          obtain ⟨rfl, rfl, rfl, hE66⟩ := hE66
          have h106 := (hE66.2.2).1 rfl
          have hb68 := rd_255 hz (i := v60.toNat) (by omega)
          refine r_ia (pc' := 110) rfl rfl sh_255 rfl (by omega) (by omega) (hst.2.2.1 _ _ (notS_c (by omega) (notS_c (by omega) (notS_c (by omega) (notS_c (by omega) notS_n))))) ?_
          refine r_is (pc' := 111) rfl rfl sh_250 rfl (by omega) (by omega) hst (inS_0 (by omega) (by omega) (by omega) (by omega)) (wr_250 ⟨by omega, by omega⟩) (fun z69 hq70 hs71 => ?_)
          have hqF := hq70
          refine r_ld (pc' := 112) rfl rfl rfl rfl ?_
          refine r_gr (b := 249) (pc' := 115) rfl rfl sh_225 rfl pp_225_45 ?_
          refine r_ld (pc' := 116) rfl rfl rfl rfl ?_
          refine r_ld (pc' := 117) rfl rfl rfl rfl ?_
          refine r_gr (b := 255) (pc' := 120) rfl rfl sh_225 rfl pp_225_51 ?_
          refine r_ld (pc' := 122) rfl rfl rfl rfl ?_
          refine r_c0 (pc' := 123) rfl rfl ?_
          refine r_cSI (pc' := 126) rfl rfl rfl rfl rfl (m_177v (d := d) x5 2 hs71.1 hs71.2.1 ⟨by omega, by omega⟩ ⟨by omega, by omega⟩) (fun v72 z73 w74 p75 h76 hs77 hE78 => ?_)
          obtain ⟨rfl, rfl, rfl, hE78⟩ := hE78
          have h123 := (hE78.2.2).2 rfl
          have hb80 := rd_255 hz (i := v72.toNat) (by omega)
          refine r_ia (pc' := 127) rfl rfl sh_255 rfl (by omega) (by omega) (((congrFun (congrFun hq70 _) _).trans (mu_ne (by omega))).trans (hst.2.2.1 _ _ (notS_c (by omega) (notS_c (by omega) (notS_c (by omega) (notS_c (by omega) notS_n)))))) ?_
          refine r_is (pc' := 128) rfl rfl sh_249 rfl (by omega) (by omega) hs71 (inS_s (inS_0 (by omega) (by omega) (by omega) (by omega))) (wr_249 ⟨by omega, by omega⟩) (fun z81 hq82 hs83 => ?_)
          have hqE := hq82
          refine r_ld (pc' := 129) rfl rfl rfl rfl ?_
          refine r_zeq (pc' := 132) rfl rfl ⟨by omega, by omega⟩ (fun hc84 => ?_) (fun hc84 => ?_)
          · skip
            refine r_ld (pc' := 146) rfl rfl rfl rfl ?_
            refine r_gr (b := 252) (pc' := 149) rfl rfl sh_225 rfl pp_225_48 ?_
            refine r_ld (pc' := 150) rfl rfl rfl rfl ?_
            refine r_ld (pc' := 151) rfl rfl rfl rfl ?_
            refine r_gr (b := 255) (pc' := 154) rfl rfl sh_225 rfl pp_225_51 ?_
            refine r_ld (pc' := 156) rfl rfl rfl rfl ?_
            refine r_ia (pc' := 157) rfl rfl sh_255 rfl (by omega) (by omega) (((congrFun (congrFun hq82 _) _).trans (mu_ne (by omega))).trans (((congrFun (congrFun hq70 _) _).trans (mu_ne (by omega))).trans (hst.2.2.1 _ _ (notS_c (by omega) (notS_c (by omega) (notS_c (by omega) (notS_c (by omega) notS_n))))))) ?_
            refine r_is (pc' := 158) rfl rfl sh_252 rfl (by omega) (by omega) hs83 (inS_s (inS_s (inS_0 (by omega) (by omega) (by omega) (by omega)))) (wr_252 ⟨by omega, by omega⟩) (fun z85 hq86 hs87 => ?_)
            have hqB := hq86
            have hco := hval (by rw [n5]; have := rd_256 hz (i := (z0 255 x5.toNat).toNat) (by have := rd_255 hz (i := x5.toNat) (by omega); omega); omega)
            refine r_c0 (pc' := 159) rfl rfl ?_
            refine r_st (pc' := 160) (lv' := [(2, _), (0, _), (1, _), (3, _), (5, _)]) rfl rfl rfl rfl ?_
            refine r_inc (pc' := 163) (lv' := [(2, _), (0, _), (1, _), (5, _)]) rfl rfl rfl rfl rfl ?_
            refine r_go rfl ?_
            exact w_lv (sub_c rfl (sub_c rfl (sub_c rfl (sub_c rfl sub_n)))) rfl (ih0 0 (x3 + 1) z85 w ⟨by omega, by omega⟩ ⟨by omega, by omega⟩ hs87 (by first | exact NBq_0 | exact NBq_n as1 (fun u g0 g1 c => by have q := co_sum c (p := x3.toNat) (by omega) (by omega); rw [← t1, ← t2, ← t0, n0, n1, n2] at q; omega) | exact NBq_s (s := x5.toNat) as1 (by omega) (by omega) (by omega) hco.1 (fun u g0 g1 c => hco.2 u (by omega) (by omega) c) (by first | (rw [show z85 251 a1.toNat = NOMARK 251 a1.toNat from NOMARK, hqA, mu_eq, if_pos (by omega)]) | (rw [if_neg (by omega)]; exact (((congrFun (congrFun hq86 _) _).trans (mu_ne (by omega))).trans (((congrFun (congrFun hq82 _) _).trans (mu_ne (by omega))).trans ((congrFun (congrFun hq70 _) _).trans (mu_ne (by omega))))))) (by rw [hqB]; exact mu_eq) (by rw [show z85 250 a1.toNat = z69 250 a1.toNat from (((congrFun (congrFun hq86 _) _).trans (mu_ne (by omega))).trans ((congrFun (congrFun hq82 _) _).trans (mu_ne (by omega)))), hqF, mu_eq, h106]) (by rw [show z85 249 a1.toNat = z81 249 a1.toNat from ((congrFun (congrFun hq86 _) _).trans (mu_ne (by omega))), hqE, mu_eq, h123])) (by first | omega | assumption) (by first | exact as5 | exact fun j hj => ⟨rfl, rfl, rfl, rfl⟩ | exact fun j hj => ⟨((((congrFun (congrFun hq86 _) _).trans (mu_ne (by omega))).trans (((congrFun (congrFun hq82 _) _).trans (mu_ne (by omega))).trans ((congrFun (congrFun hq70 _) _).trans (mu_ne (by omega)))))).trans (as5 j hj).1, ((((congrFun (congrFun hq86 _) _).trans (mu_ne (by omega))).trans (((congrFun (congrFun hq82 _) _).trans (mu_ne (by omega))).trans ((congrFun (congrFun hq70 _) _).trans (mu_ne (by omega)))))).trans (as5 j hj).2.1, ((((congrFun (congrFun hq86 _) _).trans (mu_ne (by omega))).trans (((congrFun (congrFun hq82 _) _).trans (mu_ne (by omega))).trans ((congrFun (congrFun hq70 _) _).trans (mu_ne (by omega)))))).trans (as5 j hj).2.2.1, ((((congrFun (congrFun hq86 _) _).trans (mu_ne (by omega))).trans (((congrFun (congrFun hq82 _) _).trans (mu_ne (by omega))).trans ((congrFun (congrFun hq70 _) _).trans (mu_ne (by omega)))))).trans (as5 j hj).2.2.2⟩) (by omega))
          · skip
            refine r_ld (pc' := 133) rfl rfl rfl rfl ?_
            refine r_gr (b := 251) (pc' := 136) rfl rfl sh_225 rfl pp_225_47 ?_
            refine r_ld (pc' := 137) rfl rfl rfl rfl ?_
            refine r_ld (pc' := 138) rfl rfl rfl rfl ?_
            refine r_gr (b := 255) (pc' := 141) rfl rfl sh_225 rfl pp_225_51 ?_
            refine r_ld (pc' := 143) rfl rfl rfl rfl ?_
            refine r_ia (pc' := 144) rfl rfl sh_255 rfl (by omega) (by omega) (((congrFun (congrFun hq82 _) _).trans (mu_ne (by omega))).trans (((congrFun (congrFun hq70 _) _).trans (mu_ne (by omega))).trans (hst.2.2.1 _ _ (notS_c (by omega) (notS_c (by omega) (notS_c (by omega) (notS_c (by omega) notS_n))))))) ?_
            refine r_is (pc' := 145) rfl rfl sh_251 rfl (by omega) (by omega) hs83 (inS_s (inS_s (inS_s (inS_0 (by omega) (by omega) (by omega) (by omega))))) (wr_251 ⟨by omega, by omega⟩) (fun z88 hq89 hs90 => ?_)
            have hqA := hq89
            refine r_ld (pc' := 146) rfl rfl rfl rfl ?_
            refine r_gr (b := 252) (pc' := 149) rfl rfl sh_225 rfl pp_225_48 ?_
            refine r_ld (pc' := 150) rfl rfl rfl rfl ?_
            refine r_ld (pc' := 151) rfl rfl rfl rfl ?_
            refine r_gr (b := 255) (pc' := 154) rfl rfl sh_225 rfl pp_225_51 ?_
            refine r_ld (pc' := 156) rfl rfl rfl rfl ?_
            refine r_ia (pc' := 157) rfl rfl sh_255 rfl (by omega) (by omega) (((congrFun (congrFun hq89 _) _).trans (mu_ne (by omega))).trans (((congrFun (congrFun hq82 _) _).trans (mu_ne (by omega))).trans (((congrFun (congrFun hq70 _) _).trans (mu_ne (by omega))).trans (hst.2.2.1 _ _ (notS_c (by omega) (notS_c (by omega) (notS_c (by omega) (notS_c (by omega) notS_n)))))))) ?_
            refine r_is (pc' := 158) rfl rfl sh_252 rfl (by omega) (by omega) hs90 (inS_s (inS_s (inS_0 (by omega) (by omega) (by omega) (by omega)))) (wr_252 ⟨by omega, by omega⟩) (fun z91 hq92 hs93 => ?_)
            have hqB := hq92
            have hco := hval (by rw [n5]; have := rd_256 hz (i := (z0 255 x5.toNat).toNat) (by have := rd_255 hz (i := x5.toNat) (by omega); omega); omega)
            refine r_c0 (pc' := 159) rfl rfl ?_
            refine r_st (pc' := 160) (lv' := [(2, _), (0, _), (1, _), (3, _), (5, _)]) rfl rfl rfl rfl ?_
            refine r_inc (pc' := 163) (lv' := [(2, _), (0, _), (1, _), (5, _)]) rfl rfl rfl rfl rfl ?_
            refine r_go rfl ?_
            exact w_lv (sub_c rfl (sub_c rfl (sub_c rfl (sub_c rfl sub_n)))) rfl (ih0 0 (x3 + 1) z91 w ⟨by omega, by omega⟩ ⟨by omega, by omega⟩ hs93 (by first | exact NBq_0 | exact NBq_n as1 (fun u g0 g1 c => by have q := co_sum c (p := x3.toNat) (by omega) (by omega); rw [← t1, ← t2, ← t0, n0, n1, n2] at q; omega) | exact NBq_s (s := x5.toNat) as1 (by omega) (by omega) (by omega) hco.1 (fun u g0 g1 c => hco.2 u (by omega) (by omega) c) (by first | (rw [show z91 251 a1.toNat = z88 251 a1.toNat from ((congrFun (congrFun hq92 _) _).trans (mu_ne (by omega))), hqA, mu_eq, if_pos (by omega)]) | (rw [if_neg (by omega)]; exact (((congrFun (congrFun hq92 _) _).trans (mu_ne (by omega))).trans (((congrFun (congrFun hq89 _) _).trans (mu_ne (by omega))).trans (((congrFun (congrFun hq82 _) _).trans (mu_ne (by omega))).trans ((congrFun (congrFun hq70 _) _).trans (mu_ne (by omega)))))))) (by rw [hqB]; exact mu_eq) (by rw [show z91 250 a1.toNat = z69 250 a1.toNat from (((congrFun (congrFun hq92 _) _).trans (mu_ne (by omega))).trans (((congrFun (congrFun hq89 _) _).trans (mu_ne (by omega))).trans ((congrFun (congrFun hq82 _) _).trans (mu_ne (by omega))))), hqF, mu_eq, h106]) (by rw [show z91 249 a1.toNat = z81 249 a1.toNat from (((congrFun (congrFun hq92 _) _).trans (mu_ne (by omega))).trans ((congrFun (congrFun hq89 _) _).trans (mu_ne (by omega)))), hqE, mu_eq, h123])) (by first | omega | assumption) (by first | exact as5 | exact fun j hj => ⟨rfl, rfl, rfl, rfl⟩ | exact fun j hj => ⟨((((congrFun (congrFun hq92 _) _).trans (mu_ne (by omega))).trans (((congrFun (congrFun hq89 _) _).trans (mu_ne (by omega))).trans (((congrFun (congrFun hq82 _) _).trans (mu_ne (by omega))).trans ((congrFun (congrFun hq70 _) _).trans (mu_ne (by omega))))))).trans (as5 j hj).1, ((((congrFun (congrFun hq92 _) _).trans (mu_ne (by omega))).trans (((congrFun (congrFun hq89 _) _).trans (mu_ne (by omega))).trans (((congrFun (congrFun hq82 _) _).trans (mu_ne (by omega))).trans ((congrFun (congrFun hq70 _) _).trans (mu_ne (by omega))))))).trans (as5 j hj).2.1, ((((congrFun (congrFun hq92 _) _).trans (mu_ne (by omega))).trans (((congrFun (congrFun hq89 _) _).trans (mu_ne (by omega))).trans (((congrFun (congrFun hq82 _) _).trans (mu_ne (by omega))).trans ((congrFun (congrFun hq70 _) _).trans (mu_ne (by omega))))))).trans (as5 j hj).2.2.1, ((((congrFun (congrFun hq92 _) _).trans (mu_ne (by omega))).trans (((congrFun (congrFun hq89 _) _).trans (mu_ne (by omega))).trans (((congrFun (congrFun hq82 _) _).trans (mu_ne (by omega))).trans ((congrFun (congrFun hq70 _) _).trans (mu_ne (by omega))))))).trans (as5 j hj).2.2.2⟩) (by omega))
        · skip
          have hnot : x5 < 3 * x3 + 2 := by apply Classical.byContradiction; intro q; have k0 := as4 (3 * x3).toNat (by omega) (by omega); have k1 := as4 (3 * x3 + 1).toNat (by omega) (by omega); have e5 : x5 = 3 * x3 + 2 := (by omega); have k2 : 0 < z0 256 (z0 255 (3 * x3 + 2).toNat).toNat := (by rw [← e5]; omega); omega
          refine r_inc (pc' := 91) (lv' := [(0, _), (1, _), (2, _), (3, _)]) rfl rfl rfl rfl rfl ?_
          refine r_go rfl ?_
          exact w_lv (sub_c rfl (sub_c rfl (sub_c rfl (sub_c rfl (sub_c rfl sub_n))))) rfl (ih1 x2 x3 (x5 + 1) z w ⟨by omega, by omega⟩ ⟨by omega, by omega⟩ ⟨by omega, by omega⟩ ⟨by omega, by omega⟩ hst (by exact as1) (by first | omega | assumption) (by first | omega | assumption) (by first | (intro k g0 g1; exfalso; omega) | (intro k g0 g1; by_cases c : k = x5.toNat; (subst c; omega); exact as4 k g0 (by omega))) (by exact as5) (by omega))
  refine w_m rfl rfl ?_
  refine r_c0 (pc' := 1) rfl rfl ?_
  refine r_st (pc' := 2) (lv' := [(2, _), (0, _), (1, _)]) rfl rfl rfl rfl ?_
  refine r_c0 (pc' := 3) rfl rfl ?_
  refine r_st (pc' := 4) (lv' := [(3, _), (2, _), (0, _), (1, _)]) rfl rfl rfl rfl ?_
  exact w_lv (sub_c rfl (sub_c rfl (sub_c rfl (sub_c rfl sub_n)))) rfl ((key ((3914 * (12 - 0) + 3909 : Int).toNat + 1)).1 1 0 z0 w0 ⟨by omega, by omega⟩ ⟨by omega, by omega⟩ hst (by first | exact NBq_0 | exact NBq_n as1 (fun u g0 g1 c => by have q := co_sum c (p := x3.toNat) (by omega) (by omega); rw [← t1, ← t2, ← t0, n0, n1, n2] at q; omega) | exact NBq_s (s := x5.toNat) as1 (by omega) (by omega) (by omega) hco.1 (fun u g0 g1 c => hco.2 u (by omega) (by omega) c) (by first | (rw [show z0 251 a1.toNat = NOMARK 251 a1.toNat from NOMARK, hqA, mu_eq, if_pos (by omega)]) | (rw [if_neg (by omega)]; exact rfl)) (by rw [hqB]; exact mu_eq) (by rw [show z0 250 a1.toNat = NOMARK 250 a1.toNat from NOMARK, hqF, mu_eq, h106]) (by rw [show z0 249 a1.toNat = NOMARK 249 a1.toNat from NOMARK, hqE, mu_eq, h123])) (by first | omega | assumption) (by first | exact as5 | exact fun j hj => ⟨rfl, rfl, rfl, rfl⟩ | exact fun j hj => ⟨(rfl).trans (as5 j hj).1, (rfl).trans (as5 j hj).2.1, (rfl).trans (as5 j hj).2.2.1, (rfl).trans (as5 j hj).2.2.2⟩) (by omega))
/-- LoopGroundModel shorter -/
abbrev S_199x  : mS := [(225, 225, 53, 53), (225, 225, 54, 54)]
abbrev E_199x  (z0 w0 : mZ) (x y tx it mt tt ct : Option Nat) : Int → mZ → mZ → mP → Prop := fun v z w p => p = (pq x y tx it mt tt ct) ∧ (-1) ≤ v ∧ v ≤ 17 ∧ ((v = -1 ∧ ∀ e : Nat, (e : Int) < rE z0 → ¬ CDd (z0 225 26).toNat (vT (z0 255)) (nS z0) e) ∨ (0 ≤ v ∧ v < rE z0 ∧ (∃ s1 s2, SQ (z0 225 26) (z0 255) v s1 s2 ∧ s1 / 3 ≠ s2 / 3 ∧ FQ z0 s1 s2 v < z0 256 v.toNat) ∧ ∀ e : Nat, (e : Int) < v → ¬ CDd (z0 225 26).toNat (vT (z0 255)) (nS z0) e))
theorem m_199x {d : Nat} {z0 w0 : mZ} {x y tx it mt tt ct : Option Nat}  (hz : rz z0) (hw : rw_ w0) (hly : LY (z0 225 26) (rE z0) (z0 255)) : wc (d + 3) 199 [.ref 225] (mk z0 w0 (pq x y tx it mt tt ct)) (poI S_199x z0 w0 (E_199x  z0 w0 x y tx it mt tt ct)) := by
  have hst : st_ S_199x z0 w0 z0 w0 := st_rf hz hw
  have hz37 := rd_225_26 hz
  have hm26 := rd_225_26 hz
  have hrE : rE z0 = 3 * z0 225 26 / 2 := rfl
  have key : ∀ N : Nat, (∀ (x1 : Int) (z w : mZ), 0 ≤ x1 ∧ x1 ≤ 18 → st_ S_199x z0 w0 z w → (∀ e : Nat, (e : Int) < x1 → ¬ CDd (z0 225 26).toNat (vT (z0 255)) (nS z0) e) → 24 * (18 - x1) + 21 < (N : Int) → wp_ (d + 2) 199 2 (some .int) (2, [(0, .ref 225), (1, .int (Int32.ofInt x1))], [], mk z w (pq x y tx it mt tt ct)) (poI S_199x z0 w0 (E_199x  z0 w0 x y tx it mt tt ct))) := by
    intro N
    induction N with
    | zero =>
      intro x1 z w
      intros; exfalso; omega
    | succ N ih =>
      have ih0 := ih; clear ih
      intro x1 z w  hx1 hst as9 hM
      have e26 : z 225 26 = z0 225 26 := hst.2.2.1 _ _ (notS_c (by omega) (notS_c (by omega) (notS_n)))
      have e255 : z 255 = z0 255 := funext fun i => hst.2.2.1 _ _ (notS_c (by omega) (notS_c (by omega) (notS_n)))
      have e256 : z 256 = z0 256 := funext fun i => hst.2.2.1 _ _ (notS_c (by omega) (notS_c (by omega) (notS_n)))
      refine r_ld (pc' := 3) rfl rfl rfl rfl ?_
      refine r_ld (pc' := 4) rfl rfl rfl rfl ?_
      have hb38 := rd_225_26 hz
      have hf39 : z 225 26 = z0 225 26 := (hst.2.2.1 _ _ (notS_c (by omega) (notS_c (by omega) notS_n)))
      refine r_cVI (pc' := 7) rfl rfl rfl rfl rfl sh_225 (m_161 (d := d + 1)  hst.1 hst.2.1 ) (fun v40 z41 w42 p43 h44 hs45 hE46 => ?_)
      obtain ⟨rfl, rfl, rfl, hE46⟩ := hE46
      refine r_ige (pc' := 10) rfl rfl ⟨by omega, by omega⟩ ⟨by omega, by omega⟩ (fun hc48 => ?_) (fun hc48 => ?_)
      · skip
        refine r_c0 (pc' := 41) rfl rfl ?_
        exact r_ri rfl (po_I hst ⟨by decide, by decide⟩ ⟨rfl, by omega, by omega, (by first | exact Or.inl ⟨by omega, fun e he => as9 e (by omega)⟩ | exact Or.inr ⟨by omega, by omega, ⟨_, _, hfs.1, hfs.2.1 (by omega), by unfold FQ; omega⟩, fun e he => as9 e (by omega)⟩)⟩)
      · skip
        refine r_ld (pc' := 11) rfl rfl rfl rfl ?_
        refine r_ld (pc' := 12) rfl rfl rfl rfl ?_
        have hf49 : z 225 26 = z0 225 26 := (hst.2.2.1 _ _ (notS_c (by omega) (notS_c (by omega) notS_n)))
        have hF50 : z 255 = z0 255 := (funext fun _ => hst.2.2.1 _ _ (notS_c (by omega) (notS_c (by omega) notS_n)))
        refine r_cVI (pc' := 15) rfl rfl rfl rfl rfl sh_225 (m_195x (d := d + 1) x1 hst.1 hst.2.1 ⟨by omega, by omega⟩ (by unfold rE; rw [e26, e255]; exact hly) (by unfold rE; omega)) (fun v51 z52 w53 p54 h55 hs56 hE57 => ?_)
        have hs58 := st_tr hst hs56 (sub_B rfl)
        obtain ⟨rfl, hE57⟩ := hE57
        have hfs := hE57.2.2
        rw [e26, e255] at hfs
        refine r_zeq (pc' := 18) rfl rfl ⟨by omega, by omega⟩ (fun hc59 => ?_) (fun hc59 => ?_)
        · skip
          refine r_inc (pc' := 37) (lv' := [(0, _)]) rfl rfl rfl rfl rfl ?_
          refine r_go rfl ?_
          exact w_lv (sub_c rfl (sub_c rfl sub_n)) rfl (ih0 (x1 + 1) z52 w53 ⟨by omega, by omega⟩ hs58 (by first | (intro e he; exfalso; omega) | (intro e he; by_cases c : e = x1.toNat; (subst c; first | exact CQ_no1 hly (by omega) hfs.1 (hfs.2.2 (by omega)) | exact CQ_no2 hly (by omega) (by omega) hfs.1 (by unfold FQ; omega)); exact as9 e (by omega))) (by omega))
        · skip
          refine r_ld (pc' := 19) rfl rfl rfl rfl ?_
          refine r_ld (pc' := 20) rfl rfl rfl rfl ?_
          have f26 : z52 225 26 = z0 225 26 := hs58.2.2.1 _ _ (notS_c (by omega) (notS_c (by omega) (notS_n)))
          have f255 : z52 255 = z0 255 := funext fun i => hs58.2.2.1 _ _ (notS_c (by omega) (notS_c (by omega) (notS_n)))
          have f256 : z52 256 = z0 256 := funext fun i => hs58.2.2.1 _ _ (notS_c (by omega) (notS_c (by omega) (notS_n)))
          have hf60 : z52 225 26 = z0 225 26 := ((hs56.2.2.1 _ _ (notS_c (by omega) (notS_c (by omega) notS_n))).trans (hst.2.2.1 _ _ (notS_c (by omega) (notS_c (by omega) notS_n))))
          have hb61 := rd_225_53 hs58.1
          have hb62 := rd_225_54 hs58.1
          have hF63 : z52 255 = z0 255 := ((funext fun _ => hs56.2.2.1 _ _ (notS_c (by omega) (notS_c (by omega) notS_n))).trans (funext fun _ => hst.2.2.1 _ _ (notS_c (by omega) (notS_c (by omega) notS_n))))
          refine r_cVI (pc' := 23) rfl rfl rfl rfl rfl sh_225 (m_196v (d := d) x1 hs58.1 hs58.2.1 ⟨by omega, by omega⟩ (by rw [f26, f255]; exact hfs.1)) (fun v64 z65 w66 p67 h68 hs69 hE70 => ?_)
          obtain ⟨rfl, rfl, rfl, hE70⟩ := hE70
          have hfq := hE70.2.2
          unfold FQ at hfq
          rw [f255, f256] at hfq
          refine r_ld (pc' := 24) rfl rfl rfl rfl ?_
          refine r_gr (b := 256) (pc' := 27) rfl rfl sh_225 rfl pp_225_52 ?_
          refine r_ld (pc' := 28) rfl rfl rfl rfl ?_
          have hb72 := rd_256 hz (i := x1.toNat) (by omega)
          refine r_ia (pc' := 29) rfl rfl sh_256 rfl (by omega) (by omega) ((hs56.2.2.1 _ _ (notS_c (by omega) (notS_c (by omega) notS_n))).trans (hst.2.2.1 _ _ (notS_c (by omega) (notS_c (by omega) notS_n)))) ?_
          refine r_ige (pc' := 32) rfl rfl ⟨by omega, by omega⟩ ⟨by omega, by omega⟩ (fun hc73 => ?_) (fun hc73 => ?_)
          · skip
            refine r_inc (pc' := 37) (lv' := [(0, _)]) rfl rfl rfl rfl rfl ?_
            refine r_go rfl ?_
            exact w_lv (sub_c rfl (sub_c rfl sub_n)) rfl (ih0 (x1 + 1) z52 w53 ⟨by omega, by omega⟩ hs58 (by first | (intro e he; exfalso; omega) | (intro e he; by_cases c : e = x1.toNat; (subst c; first | exact CQ_no1 hly (by omega) hfs.1 (hfs.2.2 (by omega)) | exact CQ_no2 hly (by omega) (by omega) hfs.1 (by unfold FQ; omega)); exact as9 e (by omega))) (by omega))
          · skip
            refine r_ld (pc' := 33) rfl rfl rfl rfl ?_
            exact r_ri rfl (po_I hs58 ⟨by omega, by omega⟩ ⟨rfl, by omega, by omega, (by first | exact Or.inl ⟨by omega, fun e he => as9 e (by omega)⟩ | exact Or.inr ⟨by omega, by omega, ⟨_, _, hfs.1, hfs.2.1 (by omega), by unfold FQ; omega⟩, fun e he => as9 e (by omega)⟩)⟩)
  refine w_m rfl rfl ?_
  refine r_c0 (pc' := 1) rfl rfl ?_
  refine r_st (pc' := 2) (lv' := [(1, _), (0, _)]) rfl rfl rfl rfl ?_
  exact w_lv (sub_c rfl (sub_c rfl sub_n)) rfl ((key ((24 * (18 - 0) + 21 : Int).toNat + 1)) 0 z0 w0 ⟨by omega, by omega⟩ hst (by first | (intro e he; exfalso; omega) | (intro e he; by_cases c : e = x1.toNat; (subst c; first | exact CQ_no1 hly (by omega) hfs.1 (hfs.2.2 (by omega)) | exact CQ_no2 hly (by omega) (by omega) hfs.1 (by unfold FQ; omega)); exact as9 e (by omega))) (by omega))
/-- LoopGroundModel layFlips -/
abbrev S_200x  : mS := [(248, 248, 0, 7), (254, 254, 0, 7), (244, 244, 0, 18), (243, 243, 0, 17), (225, 225, 36, 36), (225, 225, 37, 37), (245, 245, 0, 17999), (225, 225, 38, 38), (225, 225, 39, 39), (225, 225, 40, 40), (253, 253, 0, 7), (255, 255, 0, 35), (256, 256, 0, 17), (250, 250, 0, 7), (249, 249, 0, 7), (252, 252, 0, 7), (251, 251, 0, 7), (225, 225, 53, 53), (225, 225, 54, 54), (247, 247, 0, 71279)]
abbrev E_200x (a1 : Int) (z0 w0 : mZ) (x y tx it mt tt ct : Option Nat) : mZ → mZ → mP → Prop := fun z w p => p = (pq x y tx it mt tt ct) ∧ (GRq z0 z a1.toNat ∧ OTH z0 z a1.toNat ∧ (∀ j : Nat, j ≠ a1.toNat → z 253 j = z0 253 j) ∧ RLQ z0 z a1.toNat)
set_option maxHeartbeats 8000000 in
theorem m_200x {d : Nat} {z0 w0 : mZ} {x y tx it mt tt ct : Option Nat} (a1 : Int) (hz : rz z0) (hw : rw_ w0) (ha1 : 0 ≤ a1 ∧ a1 ≤ 7) (hrw : RW z0) (hft : FT (z0 225 26).toNat (vT (z0 235)) (tr (rE z0) (lnR z0 a1.toNat))) (h99 : ∀ e : Nat, (e : Int) < rE z0 → lnR z0 a1.toNat e ≤ 99) : wc (d + 7) 200 [.ref 225, .int (Int32.ofInt a1)] (mk z0 w0 (pq x y tx it mt tt ct)) (poV S_200x z0 w0 (E_200x a1 z0 w0 x y tx it mt tt ct)) := by
  have hst : st_ S_200x z0 w0 z0 w0 := st_rf hz hw
  have hz78 := rd_225_26 hz
  have hm26 := rd_225_26 hz
  have hrE : rE z0 = 3 * z0 225 26 / 2 := rfl
  have key : ∀ N : Nat, (∀ (x2 : Int) (z w : mZ), 0 ≤ x2 ∧ x2 ≤ 36 → st_ S_200x z0 w0 z w → z 225 53 = z0 225 53 → z 225 54 = z0 225 54 → (CN (z0 225 26).toNat (vT (z0 235)) (oF (z0 235) (z0 241)) (tr (rE z0) (lnR z0 a1.toNat)) ∧ ∃ e : Nat, (e : Int) < rE z0 ∧ 0 < (tr (rE z0) (lnR z0 a1.toNat)) e) → (∀ s : Nat, (s : Int) < x2 → z 255 s = z0 235 s) → (z 248 a1.toNat = 0 ∧ z 254 a1.toNat = 0) → (OTH z0 z a1.toNat) → (z 253 a1.toNat = 1 ∧ SGL (rE z0) (z0 235) (z0 240) (z0 241) (tr (rE z0) (lnR z0 a1.toNat))) → (∀ j : Nat, j ≠ a1.toNat → z 253 j = z0 253 j) → 80 * (36 - x2) + 21654 < (N : Int) → wp_ (d + 6) 200 3 none (37, [(0, .ref 225), (1, .int (Int32.ofInt a1)), (2, .int (Int32.ofInt x2))], [], mk z w (pq x y tx it mt tt ct)) (poV S_200x z0 w0 (E_200x a1 z0 w0 x y tx it mt tt ct))) ∧ (∀ (x2 : Int) (z w : mZ), 0 ≤ x2 ∧ x2 ≤ 18 → st_ S_200x z0 w0 z w → z 225 53 = z0 225 53 → z 225 54 = z0 225 54 → (CN (z0 225 26).toNat (vT (z0 235)) (oF (z0 235) (z0 241)) (tr (rE z0) (lnR z0 a1.toNat)) ∧ ∃ e : Nat, (e : Int) < rE z0 ∧ 0 < (tr (rE z0) (lnR z0 a1.toNat)) e) → (∀ s : Nat, (s : Int) < 36 → z 255 s = z0 235 s) → (∀ e : Nat, (e : Int) < x2 → z 256 e = z0 236 (18 * a1.toNat + e)) → (z 248 a1.toNat = 0 ∧ z 254 a1.toNat = 0) → (OTH z0 z a1.toNat) → (z 253 a1.toNat = 1 ∧ SGL (rE z0) (z0 235) (z0 240) (z0 241) (tr (rE z0) (lnR z0 a1.toNat))) → (∀ j : Nat, j ≠ a1.toNat → z 253 j = z0 253 j) → 80 * (18 - x2) + 20039 < (N : Int) → wp_ (d + 6) 200 3 none (63, [(0, .ref 225), (1, .int (Int32.ofInt a1)), (2, .int (Int32.ofInt x2))], [], mk z w (pq x y tx it mt tt ct)) (poV S_200x z0 w0 (E_200x a1 z0 w0 x y tx it mt tt ct))) ∧ (∀ (z w : mZ), st_ S_200x z0 w0 z w → (SHI (z0 225 26) (rE z0) (z0 235) (z 255) (tr (rE z0) (z 256)) (cfQ z a1.toNat) (z 248 a1.toNat)) → (z 254 a1.toNat = 0) → (∀ i j, i < (z 248 a1.toNat).toNat → j < 5 → ((cfQ z a1.toNat i j : Nat) : Int) < rE z0) → (OTH z0 z a1.toNat) → (z 253 a1.toNat = 1 ∧ SGL (rE z0) (z0 235) (z0 240) (z0 241) (tr (rE z0) (lnR z0 a1.toNat))) → (∀ j : Nat, j ≠ a1.toNat → z 253 j = z0 253 j) → (CHN (z0 225 26).toNat (rE z0) (vT (z0 235)) (tr (rE z0) (lnR z0 a1.toNat)) (cfQ z a1.toNat) (z 248 a1.toNat).toNat (vT (z 255)) (tr (rE z0) (z 256))) → (((1783 - z 248 a1.toNat).toNat : Nat) : Int) < (N : Int) → wp_ (d + 6) 200 3 none (92, [(0, .ref 225), (1, .int (Int32.ofInt a1))], [], mk z w (pq x y tx it mt tt ct)) (poV S_200x z0 w0 (E_200x a1 z0 w0 x y tx it mt tt ct))) := by
    intro N
    induction N with
    | zero =>
      refine ⟨?_, ?_, ?_⟩
      · intro x2 z w
        intros; exfalso; omega
      · intro x2 z w
        intros; exfalso; omega
      · intro  z w
        intros; exfalso; omega
    | succ N ih =>
      obtain ⟨ih0, ih1, ih2⟩ := ih
      refine ⟨?_, ?_, ?_⟩
      · intro x2 z w  hx2 hst un_z_225_53 un_z_225_54 asC as1 asF asO asS asP hM
        refine r_ld (pc' := 38) rfl rfl rfl rfl ?_
        refine r_cb (pc' := 40) rfl (by decide) rfl ?_
        refine r_ige (pc' := 43) rfl rfl ⟨by omega, by omega⟩ ⟨by decide, by decide⟩ (fun hc79 => ?_) (fun hc79 => ?_)
        · skip
          refine r_c0 (pc' := 62) rfl rfl ?_
          refine r_st (pc' := 63) (lv' := [(2, _), (0, _), (1, _)]) rfl rfl rfl rfl ?_
          have hb80 := rd_225_53 hz
          have hb81 := rd_225_54 hz
          exact w_lv (sub_c rfl (sub_c rfl (sub_c rfl sub_n))) rfl (ih1 0 z w ⟨by omega, by omega⟩ hst (un_z_225_53) (un_z_225_54) (by exact asC) (by first | exact as1 | exact fun s hs => as1 s (by omega) | exact fun s hs => (rfl).trans (as1 s hs)) (by first | (intro e he; exfalso; omega) | (intro e he; rw [hqs]; by_cases c : e = x2.toNat; (subst c; rw [mu_eq, show (18 * a1 + x2).toNat = 18 * a1.toNat + x2.toNat by omega]); (rw [mu_ne (by omega)]; exact as2 e (by omega)))) (by first | exact asF | exact ⟨(rfl).trans asF.1, (rfl).trans asF.2⟩) (by first | exact asO | exact OTH_c (OTH_0 z0 a1.toNat) (fun a j h1 h2 h3 h4 => rfl) | exact OTH_c asO (fun a j h1 h2 h3 h4 => rfl)) (by first | exact asS | exact ⟨(rfl).trans asS.1, asS.2⟩ | exact ⟨(NOMARK).trans ((congrFun (congrFun hqc _) _).trans (mu_eq.trans (by omega))), hsg2.1 (by omega)⟩) (by first | exact asP | exact fun j hj => (rfl).trans (asP j hj) | exact fun j hj => (NOMARK).trans ((congrFun (congrFun hqc _) _).trans ((mu_ne (by omega)).trans (cp3 j)))) (by omega))
        · skip
          refine r_ld (pc' := 44) rfl rfl rfl rfl ?_
          refine r_gr (b := 255) (pc' := 47) rfl rfl sh_225 rfl pp_225_51 ?_
          refine r_ld (pc' := 48) rfl rfl rfl rfl ?_
          refine r_ld (pc' := 49) rfl rfl rfl rfl ?_
          refine r_gr (b := 235) (pc' := 52) rfl rfl sh_225 rfl pp_225_18 ?_
          refine r_ld (pc' := 53) rfl rfl rfl rfl ?_
          have hb82 := rd_235 hz (i := x2.toNat) (by omega)
          refine r_ia (pc' := 54) rfl rfl sh_235 rfl (by omega) (by omega) (hst.2.2.1 _ _ (notS_c (by omega) (notS_c (by omega) (notS_c (by omega) (notS_c (by omega) (notS_c (by omega) (notS_c (by omega) (notS_c (by omega) (notS_c (by omega) (notS_c (by omega) (notS_c (by omega) (notS_c (by omega) (notS_c (by omega) (notS_c (by omega) (notS_c (by omega) (notS_c (by omega) (notS_c (by omega) (notS_c (by omega) (notS_c (by omega) (notS_c (by omega) (notS_c (by omega) notS_n))))))))))))))))))))) ?_
          refine r_is (pc' := 55) rfl rfl sh_255 rfl (by omega) (by omega) hst (inS_s (inS_s (inS_s (inS_s (inS_s (inS_s (inS_s (inS_s (inS_s (inS_s (inS_s (inS_0 (by omega) (by omega) (by omega) (by omega))))))))))))) (wr_255 ⟨by omega, by omega⟩) (fun z83 hq84 hs85 => ?_)
          have hqw := hq84
          refine r_inc (pc' := 58) (lv' := [(0, _), (1, _)]) rfl rfl rfl rfl rfl ?_
          refine r_go rfl ?_
          have hb86 := rd_225_53 hz
          have hb87 := rd_225_54 hz
          exact w_lv (sub_c rfl (sub_c rfl (sub_c rfl sub_n))) rfl (ih0 (x2 + 1) z83 w ⟨by omega, by omega⟩ hs85 ((((congrFun (congrFun hq84 _) _).trans (mu_ne (by omega))).trans un_z_225_53)) ((((congrFun (congrFun hq84 _) _).trans (mu_ne (by omega))).trans un_z_225_54)) (by first | exact asC | exact hcn3) (by first | (intro s hs; exfalso; omega) | (intro s hs; rw [hqw]; by_cases c : s = x2.toNat; (subst c; exact mu_eq); (rw [mu_ne (by omega)]; exact as1 s (by omega)))) (by first | exact asF | exact ⟨(((congrFun (congrFun hq84 _) _).trans (mu_ne (by omega)))).trans asF.1, (((congrFun (congrFun hq84 _) _).trans (mu_ne (by omega)))).trans asF.2⟩ | exact ⟨(NOMARK).trans ((congrFun (congrFun hqa _) _).trans mu_eq), (NOMARK).trans ((congrFun (congrFun hqb _) _).trans mu_eq)⟩) (by first | exact asO | exact OTH_c (OTH_0 z0 a1.toNat) (fun a j h1 h2 h3 h4 => ((congrFun (congrFun hq84 _) _).trans (mu_ne (by omega)))) | exact OTH_c asO (fun a j h1 h2 h3 h4 => ((congrFun (congrFun hq84 _) _).trans (mu_ne (by omega))))) (by first | exact asS | exact ⟨(((congrFun (congrFun hq84 _) _).trans (mu_ne (by omega)))).trans asS.1, asS.2⟩ | exact ⟨(NOMARK).trans ((congrFun (congrFun hqc _) _).trans (mu_eq.trans (by omega))), hsg2.1 (by omega)⟩) (by first | exact asP | exact fun j hj => (((congrFun (congrFun hq84 _) _).trans (mu_ne (by omega)))).trans (asP j hj) | exact fun j hj => (NOMARK).trans ((congrFun (congrFun hqc _) _).trans ((mu_ne (by omega)).trans (cp3 j)))) (by omega))
      · intro x2 z w  hx2 hst un_z_225_53 un_z_225_54 asC as1 as2 asF asO asS asP hM
        refine r_ld (pc' := 64) rfl rfl rfl rfl ?_
        refine r_cb (pc' := 66) rfl (by decide) rfl ?_
        refine r_ige (pc' := 69) rfl rfl ⟨by omega, by omega⟩ ⟨by decide, by decide⟩ (fun hc88 => ?_) (fun hc88 => ?_)
        · skip
          exact w_lv (sub_c rfl (sub_c rfl sub_n)) rfl (ih2 z w hst (by first | exact hds.1 | (have hqe : tr (rE z0) (z 256) = tr (rE z0) (lnR z0 a1.toNat) := by (funext e; by_cases c : (e : Int) < rE z0; (rw [tr_l c, tr_l c]; exact as2 e (by omega)); (rw [tr_g (by omega), tr_g (by omega)]))); rw [asF.1, hqe]; exact SHI_0 hrw hft asC.1 asC.2 (sm_99 (fun j hj => by by_cases c : (j : Int) < rE z0; (rw [tr_l c]; exact h99 j c); (rw [tr_g (by omega)]; omega))) (fun s hs => as1 s (by omega))) (by first | exact asF.2 | exact (rfl).trans as2) (by first | (intro i j hi hj; exfalso; omega) | exact as3n) (by first | exact asO | exact asOn) (by first | exact asS | exact ⟨(rfl).trans asS.1, asS.2⟩ | exact ⟨(NOMARK).trans ((congrFun (congrFun hqc _) _).trans (mu_eq.trans (by omega))), hsg2.1 (by omega)⟩) (by first | exact asP | exact fun j hj => (rfl).trans (asP j hj) | exact fun j hj => (NOMARK).trans ((congrFun (congrFun hqc _) _).trans ((mu_ne (by omega)).trans (cp3 j)))) (by first | exact as6n | exact CHN_00 (by omega) (fun s hs => by show (z 255 s).toNat = (z0 235 s).toNat; rw [as1 s (by omega)]) (fun j hj => by by_cases c : (j : Int) < rE z0; (rw [tr_l c, tr_l c]; exact as2 j (by omega)); (rw [tr_g (by omega), tr_g (by omega)]))) (by omega))
        · skip
          refine r_ld (pc' := 70) rfl rfl rfl rfl ?_
          refine r_gr (b := 256) (pc' := 73) rfl rfl sh_225 rfl pp_225_52 ?_
          refine r_ld (pc' := 74) rfl rfl rfl rfl ?_
          refine r_ld (pc' := 75) rfl rfl rfl rfl ?_
          refine r_gr (b := 236) (pc' := 78) rfl rfl sh_225 rfl pp_225_19 ?_
          refine r_cb (pc' := 80) rfl (by decide) rfl ?_
          refine r_ld (pc' := 81) rfl rfl rfl rfl ?_
          refine r_mul (pc' := 82) rfl rfl ?_
          refine r_ld (pc' := 83) rfl rfl rfl rfl ?_
          refine r_add (pc' := 84) rfl rfl ?_
          have hb89 := rd_236 hz (i := ((18 * a1) + x2).toNat) (by omega)
          refine r_ia (pc' := 85) rfl rfl sh_236 rfl (by omega) (by omega) (hst.2.2.1 _ _ (notS_c (by omega) (notS_c (by omega) (notS_c (by omega) (notS_c (by omega) (notS_c (by omega) (notS_c (by omega) (notS_c (by omega) (notS_c (by omega) (notS_c (by omega) (notS_c (by omega) (notS_c (by omega) (notS_c (by omega) (notS_c (by omega) (notS_c (by omega) (notS_c (by omega) (notS_c (by omega) (notS_c (by omega) (notS_c (by omega) (notS_c (by omega) (notS_c (by omega) notS_n))))))))))))))))))))) ?_
          refine r_is (pc' := 86) rfl rfl sh_256 rfl (by omega) (by omega) hst (inS_s (inS_s (inS_s (inS_s (inS_s (inS_s (inS_s (inS_s (inS_s (inS_s (inS_s (inS_s (inS_0 (by omega) (by omega) (by omega) (by omega)))))))))))))) (wr_256 ⟨by omega, by omega⟩) (fun z90 hq91 hs92 => ?_)
          have hqs := hq91
          refine r_inc (pc' := 89) (lv' := [(0, _), (1, _)]) rfl rfl rfl rfl rfl ?_
          refine r_go rfl ?_
          have hb93 := rd_225_53 hz
          have hb94 := rd_225_54 hz
          exact w_lv (sub_c rfl (sub_c rfl (sub_c rfl sub_n))) rfl (ih1 (x2 + 1) z90 w ⟨by omega, by omega⟩ hs92 ((((congrFun (congrFun hq91 _) _).trans (mu_ne (by omega))).trans un_z_225_53)) ((((congrFun (congrFun hq91 _) _).trans (mu_ne (by omega))).trans un_z_225_54)) (by exact asC) (by first | exact as1 | exact fun s hs => as1 s (by omega) | exact fun s hs => (((congrFun (congrFun hq91 _) _).trans (mu_ne (by omega)))).trans (as1 s hs)) (by first | (intro e he; exfalso; omega) | (intro e he; rw [hqs]; by_cases c : e = x2.toNat; (subst c; rw [mu_eq, show (18 * a1 + x2).toNat = 18 * a1.toNat + x2.toNat by omega]); (rw [mu_ne (by omega)]; exact as2 e (by omega)))) (by first | exact asF | exact ⟨(((congrFun (congrFun hq91 _) _).trans (mu_ne (by omega)))).trans asF.1, (((congrFun (congrFun hq91 _) _).trans (mu_ne (by omega)))).trans asF.2⟩) (by first | exact asO | exact OTH_c (OTH_0 z0 a1.toNat) (fun a j h1 h2 h3 h4 => ((congrFun (congrFun hq91 _) _).trans (mu_ne (by omega)))) | exact OTH_c asO (fun a j h1 h2 h3 h4 => ((congrFun (congrFun hq91 _) _).trans (mu_ne (by omega))))) (by first | exact asS | exact ⟨(((congrFun (congrFun hq91 _) _).trans (mu_ne (by omega)))).trans asS.1, asS.2⟩ | exact ⟨(NOMARK).trans ((congrFun (congrFun hqc _) _).trans (mu_eq.trans (by omega))), hsg2.1 (by omega)⟩) (by first | exact asP | exact fun j hj => (((congrFun (congrFun hq91 _) _).trans (mu_ne (by omega)))).trans (asP j hj) | exact fun j hj => (NOMARK).trans ((congrFun (congrFun hqc _) _).trans ((mu_ne (by omega)).trans (cp3 j)))) (by omega))
      · intro  z w  hst as1 as2 as3 asO asS asP as6 hM
        have e26 : z 225 26 = z0 225 26 := hst.2.2.1 _ _ (notS_c (by omega) (notS_c (by omega) (notS_c (by omega) (notS_c (by omega) (notS_c (by omega) (notS_c (by omega) (notS_c (by omega) (notS_c (by omega) (notS_c (by omega) (notS_c (by omega) (notS_c (by omega) (notS_c (by omega) (notS_c (by omega) (notS_c (by omega) (notS_c (by omega) (notS_c (by omega) (notS_c (by omega) (notS_c (by omega) (notS_c (by omega) (notS_c (by omega) (notS_n)))))))))))))))))))))
        have h248 := rd_248 hst.1 (i := a1.toNat) (by omega)
        have hns : nS z = tr (rE z0) (z 256) := by unfold nS rE; rw [e26]
        have hmx : z 248 a1.toNat ≤ 1781 := by apply Classical.byContradiction; intro q; exact SHI_max as1 (by omega)
        refine r_ld (pc' := 93) rfl rfl rfl rfl ?_
        refine r_cVI (pc' := 96) rfl rfl rfl rfl rfl sh_225 (m_197x (d := d + 4)  hst.1 hst.2.1 ) (fun v95 z96 w97 p98 h99 hs100 hE101 => ?_)
        obtain ⟨rfl, rfl, rfl, hE101⟩ := hE101
        have his := hE101.2.2
        rw [hns, show rE z = rE z0 by unfold rE; rw [e26]] at his
        refine r_zne (pc' := 99) rfl rfl ⟨by omega, by omega⟩ (fun hc103 => ?_) (fun hc103 => ?_)
        · skip
          refine r_ld (pc' := 119) rfl rfl rfl rfl ?_
          refine r_gr (b := 254) (pc' := 122) rfl rfl sh_225 rfl pp_225_50 ?_
          refine r_ld (pc' := 123) rfl rfl rfl rfl ?_
          refine r_c0 (pc' := 124) rfl rfl ?_
          have g26 : z 225 26 = z0 225 26 := hst.2.2.1 _ _ (notS_c (by omega) (notS_c (by omega) (notS_c (by omega) (notS_c (by omega) (notS_c (by omega) (notS_c (by omega) (notS_c (by omega) (notS_c (by omega) (notS_c (by omega) (notS_c (by omega) (notS_c (by omega) (notS_c (by omega) (notS_c (by omega) (notS_c (by omega) (notS_c (by omega) (notS_c (by omega) (notS_c (by omega) (notS_c (by omega) (notS_c (by omega) (notS_c (by omega) (notS_n)))))))))))))))))))))
          refine r_zs (pc' := 125) rfl rfl sh_254 rfl (by omega) (by omega) (by omega) hst (inS_s (inS_0 (by omega) (by omega) (by omega) (by omega))) (wr_254 ⟨by omega, by omega⟩) (fun z104 hq105 hs106 => ?_)
          have hqg := hq105
          refine r_ld (pc' := 126) rfl rfl rfl rfl ?_
          refine r_ld (pc' := 127) rfl rfl rfl rfl ?_
          have m26 : z104 225 26 = z0 225 26 := hs106.2.2.1 _ _ (notS_c (by omega) (notS_c (by omega) (notS_c (by omega) (notS_c (by omega) (notS_c (by omega) (notS_c (by omega) (notS_c (by omega) (notS_c (by omega) (notS_c (by omega) (notS_c (by omega) (notS_c (by omega) (notS_c (by omega) (notS_c (by omega) (notS_c (by omega) (notS_c (by omega) (notS_c (by omega) (notS_c (by omega) (notS_c (by omega) (notS_c (by omega) (notS_c (by omega) (notS_n)))))))))))))))))))))
          have m255 : z104 255 = z 255 := funext fun i => ((congrFun (congrFun hq105 _) _).trans (mu_ne (by omega)))
          have m256 : z104 256 = z 256 := funext fun i => ((congrFun (congrFun hq105 _) _).trans (mu_ne (by omega)))
          have mns : nS z104 = tr (rE z0) (z 256) := by unfold nS rE; rw [m26, m256]
          have n249 : ∀ j, z104 249 j = z 249 j := fun j => ((congrFun (congrFun hq105 _) _).trans (mu_ne (by omega)))
          have n250 : ∀ j, z104 250 j = z 250 j := fun j => ((congrFun (congrFun hq105 _) _).trans (mu_ne (by omega)))
          have n251 : ∀ j, z104 251 j = z 251 j := fun j => ((congrFun (congrFun hq105 _) _).trans (mu_ne (by omega)))
          have n252 : ∀ j, z104 252 j = z 252 j := fun j => ((congrFun (congrFun hq105 _) _).trans (mu_ne (by omega)))
          have hb107 := rd_225_26 hz
          have hf108 : z104 225 26 = z0 225 26 := (((congrFun (congrFun hq105 _) _).trans (mu_ne (by omega))).trans (hst.2.2.1 _ _ (notS_c (by omega) (notS_c (by omega) (notS_c (by omega) (notS_c (by omega) (notS_c (by omega) (notS_c (by omega) (notS_c (by omega) (notS_c (by omega) (notS_c (by omega) (notS_c (by omega) (notS_c (by omega) (notS_c (by omega) (notS_c (by omega) (notS_c (by omega) (notS_c (by omega) (notS_c (by omega) (notS_c (by omega) (notS_c (by omega) (notS_c (by omega) (notS_c (by omega) notS_n))))))))))))))))))))))
          have hF109 : z104 255 = z 255 := ((congrFun hq105 _).trans (mu_fn (by omega)))
          refine r_cVV (pc' := 130) rfl rfl rfl rfl rfl sh_225 (m_201x (d := d + 4) a1 hs106.1 hs106.2.1 ⟨by omega, by omega⟩ (by rw [show rE z104 = rE z0 by unfold rE; rw [m26], m26, m255]; exact as1.1) (by rw [mns, show rE z104 = rE z0 by unfold rE; rw [m26]]; exact (his.1 (by omega)).1)) (fun z111 w112 p113 hs115 hE116 => ?_)
          have hs117 := st_tr hs106 hs115 (sub_B rfl)
          obtain ⟨rfl, hE116⟩ := hE116
          have hls := hE116
          have p248 : z111 248 a1.toNat = z 248 a1.toNat := ((hs115.2.2.1 _ _ (notS_c (by omega) (notS_c (by omega) (notS_c (by omega) (notS_c (by omega) notS_n))))).trans ((congrFun (congrFun hq105 _) _).trans (mu_ne (by omega))))
          have p247 : z111 247 = z 247 := funext fun i => ((hs115.2.2.1 _ _ (notS_c (by omega) (notS_c (by omega) (notS_c (by omega) (notS_c (by omega) notS_n))))).trans ((congrFun (congrFun hq105 _) _).trans (mu_ne (by omega))))
          have hcq2 : cfQ z111 a1.toNat = cfQ z a1.toNat := by funext i j; unfold cfQ; rw [p247]
          have hss := his.1 (by omega)
          have h2c := SHI_two as1 hss.1 hss.2
          have hen := hls.1 (by rw [m26, m255, mns]; exact h2c)
          rw [m26, m255, mns] at hen
          have hen2 := hen
          obtain ⟨u, v, w3, w2, w4, w5, w6, w7, w8, w9⟩ := hen2
          have w1 : u < 3 * (z0 225 26).toNat := by omega
          have hgr := GR_sym (SHI_gr as1 hss.1 hss.2 w2 w1 (by omega) w5 w4)
          have hbd : ∀ s : Nat, s < 3 * (z0 225 26).toNat → z 255 s < rE z0 := fun s hs => (as1.1.2.2.2.1 s (by omega)).2
          have y251 := rd_251 hs117.1 (i := a1.toNat) (by omega)
          have y252 := rd_252 hs117.1 (i := a1.toNat) (by omega)
          have y249 := rd_249 hs117.1 (i := a1.toNat) (by omega)
          have y250 := rd_250 hs117.1 (i := a1.toNat) (by omega)
          have hbv : ∀ s : Nat, s < 3 * (z0 225 26).toNat → ((vT (z 255) s : Nat) : Int) < rE z0 := fun s hs => by have := hbd s hs; have := (as1.1.2.2.2.1 s (by omega)).1; show (((z 255 s).toNat : Nat) : Int) < _; omega
          have b1 := hbv u w1
          have b2 := hbv v w2
          have b3 := hbv _ (ah_lt w2)
          have b4 := hbv _ (bh_lt w2)
          have hfin : GRq z0 z111 a1.toNat := fun _ => by refine ⟨?_, ?_, by omega, by omega, by omega, by omega⟩; (rw [p248, hcq2, w6, w7, w8, w9]; exact hgr); (rw [p248, hcq2]; exact as3)
          have hoth : OTH z0 z111 a1.toNat := ⟨fun j hj => by obtain ⟨h1, h2, h3, h4, h5, h6⟩ := asO.1 j hj; obtain ⟨l1, l2, l3, l4⟩ := hls.2 j hj; exact ⟨(((hs115.2.2.1 _ _ (notS_c (by omega) (notS_c (by omega) (notS_c (by omega) (notS_c (by omega) notS_n))))).trans ((congrFun (congrFun hq105 _) _).trans (mu_ne (by omega))))).trans h1, l1.trans ((n249 j).trans h2), l2.trans ((n250 j).trans h3), l3.trans ((n251 j).trans h4), l4.trans ((n252 j).trans h5), (((hs115.2.2.1 _ _ (notS_c (by omega) (notS_c (by omega) (notS_c (by omega) (notS_c (by omega) notS_n))))).trans ((congrFun (congrFun hq105 _) _).trans (mu_ne (by omega))))).trans h6⟩, fun i hi => (congrFun p247 i).trans (asO.2 i hi)⟩
          exact r_ret rfl (po_V hs117 ⟨rfl, (by (have e94 : z111 254 a1.toNat = 1 := ((hs115.2.2.1 _ _ (notS_c (by omega) (notS_c (by omega) (notS_c (by omega) (notS_c (by omega) notS_n)))))).trans ((congrFun (congrFun hqg _) _).trans mu_eq)); refine ⟨hfin, hoth, fun j hj => (((hs115.2.2.1 _ _ (notS_c (by omega) (notS_c (by omega) (notS_c (by omega) (notS_c (by omega) notS_n))))).trans ((congrFun (congrFun hq105 _) _).trans (mu_ne (by omega))))).trans (asP j hj), Or.inr ⟨(((hs115.2.2.1 _ _ (notS_c (by omega) (notS_c (by omega) (notS_c (by omega) (notS_c (by omega) notS_n))))).trans ((congrFun (congrFun hq105 _) _).trans (mu_ne (by omega))))).trans asS.1, asS.2, Or.inr ⟨by omega, vT (z 255), tr (rE z0) (z 256), ?_, hss, hen⟩⟩⟩; (show CHN _ _ _ _ (cfQ z111 a1.toNat) (z111 248 a1.toNat).toNat _ _; rw [p248, hcq2]; exact as6))⟩)
        · skip
          refine r_ld (pc' := 100) rfl rfl rfl rfl ?_
          have hb118 := rd_225_26 hz
          have hf119 : z 225 26 = z0 225 26 := (hst.2.2.1 _ _ (notS_c (by omega) (notS_c (by omega) (notS_c (by omega) (notS_c (by omega) (notS_c (by omega) (notS_c (by omega) (notS_c (by omega) (notS_c (by omega) (notS_c (by omega) (notS_c (by omega) (notS_c (by omega) (notS_c (by omega) (notS_c (by omega) (notS_c (by omega) (notS_c (by omega) (notS_c (by omega) (notS_c (by omega) (notS_c (by omega) (notS_c (by omega) (notS_c (by omega) notS_n)))))))))))))))))))))
          refine r_cVI (pc' := 103) rfl rfl rfl rfl rfl sh_225 (m_199x (d := d + 3)  hst.1 hst.2.1 (by rw [show rE z = rE z0 by unfold rE; rw [e26], e26]; exact as1.1)) (fun v120 z121 w122 p123 h124 hs125 hE126 => ?_)
          have hs127 := st_tr hst hs125 (sub_B rfl)
          obtain ⟨rfl, hE126⟩ := hE126
          have hsb1 := hE126.1
          have hsb2 := hE126.2.1
          have hsr := hE126.2.2
          rw [hns, show rE z = rE z0 by unfold rE; rw [e26], e26] at hsr
          clear hE126
          refine r_st (pc' := 104) (lv' := [(2, _), (0, _), (1, _)]) rfl rfl rfl rfl ?_
          refine r_ld (pc' := 105) rfl rfl rfl rfl ?_
          refine r_zge (pc' := 108) rfl rfl ⟨by omega, by omega⟩ (fun hc128 => ?_) (fun hc128 => ?_)
          · skip
            refine r_ld (pc' := 110) rfl rfl rfl rfl ?_
            refine r_ld (pc' := 111) rfl rfl rfl rfl ?_
            refine r_ld (pc' := 112) rfl rfl rfl rfl ?_
            have c26 : z121 225 26 = z0 225 26 := hs127.2.2.1 _ _ (notS_c (by omega) (notS_c (by omega) (notS_c (by omega) (notS_c (by omega) (notS_c (by omega) (notS_c (by omega) (notS_c (by omega) (notS_c (by omega) (notS_c (by omega) (notS_c (by omega) (notS_c (by omega) (notS_c (by omega) (notS_c (by omega) (notS_c (by omega) (notS_c (by omega) (notS_c (by omega) (notS_c (by omega) (notS_c (by omega) (notS_c (by omega) (notS_c (by omega) (notS_n)))))))))))))))))))))
            have c247 : z121 247 = z 247 := funext fun i => (hs125.2.2.1 _ _ (notS_c (by omega) (notS_c (by omega) notS_n)))
            have c248 : z121 248 = z 248 := funext fun i => (hs125.2.2.1 _ _ (notS_c (by omega) (notS_c (by omega) notS_n)))
            have c255 : z121 255 = z 255 := funext fun i => (hs125.2.2.1 _ _ (notS_c (by omega) (notS_c (by omega) notS_n)))
            have c256 : z121 256 = z 256 := funext fun i => (hs125.2.2.1 _ _ (notS_c (by omega) (notS_c (by omega) notS_n)))
            obtain ⟨k0, k1, ⟨s1, s2, k2, k3, k4⟩, k5⟩ := hsr.resolve_left (fun q => absurd q.1 (by omega))
            clear hsr
            have hcq : cfQ z121 a1.toNat = cfQ z a1.toNat := by funext i j; unfold cfQ; rw [c247]
            have hfnn := FQ_nn as1.1 (by omega) (by omega) as1.2.1 k2
            have hq26 : z121 255 = z 255 := c255
            have hf129 : z121 225 26 = z0 225 26 := ((hs125.2.2.1 _ _ (notS_c (by omega) (notS_c (by omega) notS_n))).trans (hst.2.2.1 _ _ (notS_c (by omega) (notS_c (by omega) (notS_c (by omega) (notS_c (by omega) (notS_c (by omega) (notS_c (by omega) (notS_c (by omega) (notS_c (by omega) (notS_c (by omega) (notS_c (by omega) (notS_c (by omega) (notS_c (by omega) (notS_c (by omega) (notS_c (by omega) (notS_c (by omega) (notS_c (by omega) (notS_c (by omega) (notS_c (by omega) (notS_c (by omega) (notS_c (by omega) notS_n))))))))))))))))))))))
            have hF130 : z121 255 = z 255 := (funext fun _ => hs125.2.2.1 _ _ (notS_c (by omega) (notS_c (by omega) notS_n)))
            refine r_cVV (pc' := 115) rfl rfl rfl rfl rfl sh_225 (m_198 (d := d + 3) a1 v120 hs127.1 hs127.2.1 ⟨by omega, by omega⟩ ⟨by omega, by omega⟩ (by rw [show rE z121 = rE z0 by unfold rE; rw [c26], c26, c255]; exact as1.1) (by rw [show rE z121 = rE z0 by unfold rE; rw [c26]]; omega) (by refine ⟨s1, s2, by rw [c26, c255]; exact k2, k3, ?_, ?_⟩; (unfold FQ; rw [c255, c256]; exact hfnn); (unfold FQ; rw [c255, c256]; exact k4)) (by rw [c248]; exact hmx)) (fun z132 w133 p134 hs136 hE137 => ?_)
            have hs138 := st_tr hs127 hs136 (sub_B rfl)
            obtain ⟨rfl, hE137⟩ := hE137
            obtain ⟨t1, t2, hsq2, hdf, hdl⟩ := hE137
            have hne2 : t1 / 3 ≠ t2 / 3 := by obtain ⟨y1, y2⟩ := SQ_u hsq2 (by rw [c26, c255]; exact k2); subst y1 y2; exact k3
            have hzq : SHI (z0 225 26) (rE z0) (z0 235) (z121 255) (tr (rE z0) (z121 256)) (cfQ z121 a1.toNat) (z121 248 a1.toNat) := by rw [c255, c256, c248, hcq]; exact as1
            have hds := DF_s (by omega) (by omega) (by omega) (by omega) c26 (by rw [← c26]; exact hsq2) hzq hdf hdl hs138.1
            have e248 : z132 248 a1.toNat = z 248 a1.toNat + 1 := by rw [hdf.2.2.1, c248]
            have as3n : ∀ i j, i < (z132 248 a1.toNat).toNat → j < 5 → ((cfQ z132 a1.toNat i j : Nat) : Int) < rE z0 := by
              intro i j hi hj
              by_cases c : i < (z 248 a1.toNat).toNat
              · rw [hds.2.2 i j (by rw [c248]; exact c) hj, hcq]; exact as3 i j c hj
              · have hi2 : i = (z121 248 a1.toNat).toNat := by rw [c248]; omega
                rw [hi2]; exact hds.2.1 j hj
            have asOn : OTH z0 z132 a1.toNat := ⟨fun j hj => by obtain ⟨h1, h2, h3, h4, h5, h6⟩ := asO.1 j hj; exact ⟨(hdf.2.2.2.1 j hj).trans ((congrFun c248 j).trans h1), (((hs136.2.2.1 _ _ (notS_c (by omega) (notS_c (by omega) (notS_c (by omega) (notS_c (by omega) (notS_c (by omega) (notS_c (by omega) notS_n))))))).trans (hs125.2.2.1 _ _ (notS_c (by omega) (notS_c (by omega) notS_n))))).trans h2, (((hs136.2.2.1 _ _ (notS_c (by omega) (notS_c (by omega) (notS_c (by omega) (notS_c (by omega) (notS_c (by omega) (notS_c (by omega) notS_n))))))).trans (hs125.2.2.1 _ _ (notS_c (by omega) (notS_c (by omega) notS_n))))).trans h3, (((hs136.2.2.1 _ _ (notS_c (by omega) (notS_c (by omega) (notS_c (by omega) (notS_c (by omega) (notS_c (by omega) (notS_c (by omega) notS_n))))))).trans (hs125.2.2.1 _ _ (notS_c (by omega) (notS_c (by omega) notS_n))))).trans h4, (((hs136.2.2.1 _ _ (notS_c (by omega) (notS_c (by omega) (notS_c (by omega) (notS_c (by omega) (notS_c (by omega) (notS_c (by omega) notS_n))))))).trans (hs125.2.2.1 _ _ (notS_c (by omega) (notS_c (by omega) notS_n))))).trans h5, (((hs136.2.2.1 _ _ (notS_c (by omega) (notS_c (by omega) (notS_c (by omega) (notS_c (by omega) (notS_c (by omega) (notS_c (by omega) notS_n))))))).trans (hs125.2.2.1 _ _ (notS_c (by omega) (notS_c (by omega) notS_n))))).trans h6⟩, fun i hi => (hdf.2.2.2.2.2.2.2.2.2 i (by rw [c248]; omega)).trans ((congrFun c247 i).trans (asO.2 i hi))⟩
            have as6n : CHN (z0 225 26).toNat (rE z0) (vT (z0 235)) (tr (rE z0) (lnR z0 a1.toNat)) (cfQ z132 a1.toNat) (z132 248 a1.toNat).toNat (vT (z132 255)) (tr (rE z0) (z132 256)) := CHN_q (zc := z121) (s1 := t1) (s2 := t2) (by omega) (by omega) (by omega) (by rw [c255]; exact as1.1) c26 (by rw [← c26]; exact hsq2) hne2 (by rw [c248]; omega) (by rw [c255, c256, c248, hcq]; exact as6) (by rw [c256]; exact his.2 (by omega)) (by rw [c255, c256]; exact k5) hdf hdl
            refine r_go rfl ?_
            exact w_lv (sub_c rfl (sub_c rfl sub_n)) rfl (ih2 z132 w133 hs138 (by first | exact hds.1 | (have hqe : tr (rE z0) (z 256) = tr (rE z0) (lnR z0 a1.toNat) := by (funext e; by_cases c : (e : Int) < rE z0; (rw [tr_l c, tr_l c]; exact as2 e (by omega)); (rw [tr_g (by omega), tr_g (by omega)]))); rw [asF.1, hqe]; exact SHI_0 hrw hft asC.1 asC.2 (sm_99 (fun j hj => by by_cases c : (j : Int) < rE z0; (rw [tr_l c]; exact h99 j c); (rw [tr_g (by omega)]; omega))) (fun s hs => as1 s (by omega))) (by first | exact asF.2 | exact (((hs136.2.2.1 _ _ (notS_c (by omega) (notS_c (by omega) (notS_c (by omega) (notS_c (by omega) (notS_c (by omega) (notS_c (by omega) notS_n))))))).trans (hs125.2.2.1 _ _ (notS_c (by omega) (notS_c (by omega) notS_n))))).trans as2) (by first | (intro i j hi hj; exfalso; omega) | exact as3n) (by first | exact asO | exact asOn) (by first | exact asS | exact ⟨(((hs136.2.2.1 _ _ (notS_c (by omega) (notS_c (by omega) (notS_c (by omega) (notS_c (by omega) (notS_c (by omega) (notS_c (by omega) notS_n))))))).trans (hs125.2.2.1 _ _ (notS_c (by omega) (notS_c (by omega) notS_n))))).trans asS.1, asS.2⟩ | exact ⟨(NOMARK).trans ((congrFun (congrFun hqc _) _).trans (mu_eq.trans (by omega))), hsg2.1 (by omega)⟩) (by first | exact asP | exact fun j hj => (((hs136.2.2.1 _ _ (notS_c (by omega) (notS_c (by omega) (notS_c (by omega) (notS_c (by omega) (notS_c (by omega) (notS_c (by omega) notS_n))))))).trans (hs125.2.2.1 _ _ (notS_c (by omega) (notS_c (by omega) notS_n))))).trans (asP j hj) | exact fun j hj => (NOMARK).trans ((congrFun (congrFun hqc _) _).trans ((mu_ne (by omega)).trans (cp3 j)))) (by first | exact as6n | exact CHN_00 (by omega) (fun s hs => by show (z 255 s).toNat = (z0 235 s).toNat; rw [as1 s (by omega)]) (fun j hj => by by_cases c : (j : Int) < rE z0; (rw [tr_l c, tr_l c]; exact as2 j (by omega)); (rw [tr_g (by omega), tr_g (by omega)]))) (by omega))
          · skip
            exact r_ret rfl (po_V hs127 ⟨rfl, (by (have e94 : z121 254 a1.toNat = z 254 a1.toNat := (hs125.2.2.1 _ _ (notS_c (by omega) (notS_c (by omega) notS_n)))); (obtain ⟨_, k6⟩ := hsr.resolve_right (fun q => absurd q.1 (by omega))); refine ⟨fun q => ?_, OTH_c asO (fun a j h1 h2 h3 h4 => (hs125.2.2.1 _ _ (notS_c (by omega) (notS_c (by omega) notS_n)))), fun j hj => ((hs125.2.2.1 _ _ (notS_c (by omega) (notS_c (by omega) notS_n)))).trans (asP j hj), Or.inr ⟨((hs125.2.2.1 _ _ (notS_c (by omega) (notS_c (by omega) notS_n)))).trans asS.1, asS.2, Or.inl ⟨by omega, _, _, _, _, as6, his.2 (by omega), fun e c => by by_cases c9 : (e : Int) < rE z0; exact k6 e c9 c; exact CD_ge as1.1 (by omega) c⟩⟩⟩; (have e9 : z121 254 a1.toNat = z 254 a1.toNat := (hs125.2.2.1 _ _ (notS_c (by omega) (notS_c (by omega) notS_n)))); omega)⟩)
  refine w_m rfl rfl ?_
  refine r_ld (pc' := 1) rfl rfl rfl rfl ?_
  refine r_gr (b := 248) (pc' := 4) rfl rfl sh_225 rfl pp_225_44 ?_
  refine r_ld (pc' := 5) rfl rfl rfl rfl ?_
  refine r_c0 (pc' := 6) rfl rfl ?_
  refine r_is (pc' := 7) rfl rfl sh_248 rfl (by omega) (by omega) hst (inS_0 (by omega) (by omega) (by omega) (by omega)) (wr_248 ⟨by omega, by omega⟩) (fun z139 hq140 hs141 => ?_)
  have hqa := hq140
  refine r_ld (pc' := 8) rfl rfl rfl rfl ?_
  refine r_gr (b := 254) (pc' := 11) rfl rfl sh_225 rfl pp_225_50 ?_
  refine r_ld (pc' := 12) rfl rfl rfl rfl ?_
  refine r_c0 (pc' := 13) rfl rfl ?_
  refine r_zs (pc' := 14) rfl rfl sh_254 rfl (by omega) (by omega) (by omega) hs141 (inS_s (inS_0 (by omega) (by omega) (by omega) (by omega))) (wr_254 ⟨by omega, by omega⟩) (fun z142 hq143 hs144 => ?_)
  have hqb := hq143
  refine r_ld (pc' := 15) rfl rfl rfl rfl ?_
  refine r_gr (b := 253) (pc' := 18) rfl rfl sh_225 rfl pp_225_49 ?_
  refine r_ld (pc' := 19) rfl rfl rfl rfl ?_
  refine r_ld (pc' := 20) rfl rfl rfl rfl ?_
  refine r_ld (pc' := 21) rfl rfl rfl rfl ?_
  have q235 : z142 235 = z0 235 := funext fun i => hs144.2.2.1 _ _ (notS_c (by omega) (notS_c (by omega) (notS_c (by omega) (notS_c (by omega) (notS_c (by omega) (notS_c (by omega) (notS_c (by omega) (notS_c (by omega) (notS_c (by omega) (notS_c (by omega) (notS_c (by omega) (notS_c (by omega) (notS_c (by omega) (notS_c (by omega) (notS_c (by omega) (notS_c (by omega) (notS_c (by omega) (notS_c (by omega) (notS_c (by omega) (notS_c (by omega) (notS_n)))))))))))))))))))))
  have q236 : z142 236 = z0 236 := funext fun i => hs144.2.2.1 _ _ (notS_c (by omega) (notS_c (by omega) (notS_c (by omega) (notS_c (by omega) (notS_c (by omega) (notS_c (by omega) (notS_c (by omega) (notS_c (by omega) (notS_c (by omega) (notS_c (by omega) (notS_c (by omega) (notS_c (by omega) (notS_c (by omega) (notS_c (by omega) (notS_c (by omega) (notS_c (by omega) (notS_c (by omega) (notS_c (by omega) (notS_c (by omega) (notS_c (by omega) (notS_n)))))))))))))))))))))
  have q240 : z142 240 = z0 240 := funext fun i => hs144.2.2.1 _ _ (notS_c (by omega) (notS_c (by omega) (notS_c (by omega) (notS_c (by omega) (notS_c (by omega) (notS_c (by omega) (notS_c (by omega) (notS_c (by omega) (notS_c (by omega) (notS_c (by omega) (notS_c (by omega) (notS_c (by omega) (notS_c (by omega) (notS_c (by omega) (notS_c (by omega) (notS_c (by omega) (notS_c (by omega) (notS_c (by omega) (notS_c (by omega) (notS_c (by omega) (notS_n)))))))))))))))))))))
  have q241 : z142 241 = z0 241 := funext fun i => hs144.2.2.1 _ _ (notS_c (by omega) (notS_c (by omega) (notS_c (by omega) (notS_c (by omega) (notS_c (by omega) (notS_c (by omega) (notS_c (by omega) (notS_c (by omega) (notS_c (by omega) (notS_c (by omega) (notS_c (by omega) (notS_c (by omega) (notS_c (by omega) (notS_c (by omega) (notS_c (by omega) (notS_c (by omega) (notS_c (by omega) (notS_c (by omega) (notS_c (by omega) (notS_c (by omega) (notS_n)))))))))))))))))))))
  have q26 : z142 225 26 = z0 225 26 := hs144.2.2.1 _ _ (notS_c (by omega) (notS_c (by omega) (notS_c (by omega) (notS_c (by omega) (notS_c (by omega) (notS_c (by omega) (notS_c (by omega) (notS_c (by omega) (notS_c (by omega) (notS_c (by omega) (notS_c (by omega) (notS_c (by omega) (notS_c (by omega) (notS_c (by omega) (notS_c (by omega) (notS_c (by omega) (notS_c (by omega) (notS_c (by omega) (notS_c (by omega) (notS_c (by omega) (notS_n)))))))))))))))))))))
  
  have hb145 := rd_225_26 hz
  have hf146 : z142 225 26 = z0 225 26 := (((congrFun (congrFun hq143 _) _).trans (mu_ne (by omega))).trans ((congrFun (congrFun hq140 _) _).trans (mu_ne (by omega))))
  have hF147 : z142 235 = z0 235 := (((congrFun hq143 _).trans (mu_fn (by omega))).trans ((congrFun hq140 _).trans (mu_fn (by omega))))
  have hF148 : z142 240 = z0 240 := (((congrFun hq143 _).trans (mu_fn (by omega))).trans ((congrFun hq140 _).trans (mu_fn (by omega))))
  have hF149 : z142 241 = z0 241 := (((congrFun hq143 _).trans (mu_fn (by omega))).trans ((congrFun hq140 _).trans (mu_fn (by omega))))
  refine r_cVI (pc' := 24) rfl rfl rfl rfl rfl sh_225 (m_190gt (d := d) a1 hs144.1 hs144.2.1 ⟨by omega, by omega⟩ (by exact RW_f hs144 (notS_c (by omega) (notS_c (by omega) (notS_c (by omega) (notS_c (by omega) (notS_c (by omega) (notS_c (by omega) (notS_c (by omega) (notS_c (by omega) (notS_c (by omega) (notS_c (by omega) (notS_c (by omega) (notS_c (by omega) (notS_c (by omega) (notS_c (by omega) (notS_c (by omega) (notS_c (by omega) (notS_c (by omega) (notS_c (by omega) (notS_c (by omega) (notS_c (by omega) (notS_n))))))))))))))))))))) (fun i => (notS_c (by omega) (notS_c (by omega) (notS_c (by omega) (notS_c (by omega) (notS_c (by omega) (notS_c (by omega) (notS_c (by omega) (notS_c (by omega) (notS_c (by omega) (notS_c (by omega) (notS_c (by omega) (notS_c (by omega) (notS_c (by omega) (notS_c (by omega) (notS_c (by omega) (notS_c (by omega) (notS_c (by omega) (notS_c (by omega) (notS_c (by omega) (notS_c (by omega) (notS_n)))))))))))))))))))))) (fun i => (notS_c (by omega) (notS_c (by omega) (notS_c (by omega) (notS_c (by omega) (notS_c (by omega) (notS_c (by omega) (notS_c (by omega) (notS_c (by omega) (notS_c (by omega) (notS_c (by omega) (notS_c (by omega) (notS_c (by omega) (notS_c (by omega) (notS_c (by omega) (notS_c (by omega) (notS_c (by omega) (notS_c (by omega) (notS_c (by omega) (notS_c (by omega) (notS_c (by omega) (notS_n)))))))))))))))))))))) (fun i => (notS_c (by omega) (notS_c (by omega) (notS_c (by omega) (notS_c (by omega) (notS_c (by omega) (notS_c (by omega) (notS_c (by omega) (notS_c (by omega) (notS_c (by omega) (notS_c (by omega) (notS_c (by omega) (notS_c (by omega) (notS_c (by omega) (notS_c (by omega) (notS_c (by omega) (notS_c (by omega) (notS_c (by omega) (notS_c (by omega) (notS_c (by omega) (notS_c (by omega) (notS_n)))))))))))))))))))))) hrw) (by unfold lnR; rw [show rE z142 = rE z0 by unfold rE; rw [q26], q26, q235, q236]; exact hft)) (fun v150 z151 w152 p153 h154 hs155 hE156 => ?_)
  have hs157 := st_tr hs144 hs155 (sub_B rfl)
  obtain ⟨rfl, hE156⟩ := hE156
  have hcn := hE156.2.2.2
  unfold lnR at hcn
  rw [show rE z142 = rE z0 by unfold rE; rw [q26], q26, q235, q236, q241] at hcn
  have hcn2 : v150 = 1 → (CN (z0 225 26).toNat (vT (z0 235)) (oF (z0 235) (z0 241)) (tr (rE z0) (lnR z0 a1.toNat)) ∧ ∃ e : Nat, (e : Int) < rE z0 ∧ 0 < (tr (rE z0) (lnR z0 a1.toNat)) e) := hcn
  have hsg := hE156.2.2.1
  unfold lnR at hsg
  rw [show rE z142 = rE z0 by unfold rE; rw [q26], q235, q236, q240, q241] at hsg
  have hsg2 : (v150 = 1 → SGL (rE z0) (z0 235) (z0 240) (z0 241) (tr (rE z0) (lnR z0 a1.toNat))) ∧ (v150 = 0 → ¬ SGL (rE z0) (z0 235) (z0 240) (z0 241) (tr (rE z0) (lnR z0 a1.toNat))) := hsg
  have cp3 : ∀ j, z151 253 j = z0 253 j := fun j => ((hs155.2.2.1 _ _ (notS_c (by omega) (notS_c (by omega) (notS_c (by omega) (notS_c (by omega) (notS_c (by omega) (notS_c (by omega) (notS_c (by omega) (notS_c (by omega) notS_n))))))))).trans (((congrFun (congrFun hq143 _) _).trans (mu_ne (by omega))).trans ((congrFun (congrFun hq140 _) _).trans (mu_ne (by omega)))))
  refine r_zs (pc' := 25) rfl rfl sh_253 rfl (by omega) (by omega) (by omega) hs157 (inS_s (inS_s (inS_s (inS_s (inS_s (inS_s (inS_s (inS_s (inS_s (inS_s (inS_0 (by omega) (by omega) (by omega) (by omega)))))))))))) (wr_253 ⟨by omega, by omega⟩) (fun z158 hq159 hs160 => ?_)
  have hqc := hq159
  refine r_ld (pc' := 26) rfl rfl rfl rfl ?_
  refine r_gr (b := 253) (pc' := 29) rfl rfl sh_225 rfl pp_225_49 ?_
  refine r_ld (pc' := 30) rfl rfl rfl rfl ?_
  refine r_ba (pc' := 31) rfl rfl sh_253 (Or.inr rfl) rfl (by omega) (by omega) ((congrFun (congrFun hq159 _) _).trans mu_eq) ?_
  refine r_zne (pc' := 34) rfl rfl ⟨by omega, by omega⟩ (fun hc161 => ?_) (fun hc161 => ?_)
  · skip
    have hcn3 := hcn2 (by omega)
    refine r_c0 (pc' := 36) rfl rfl ?_
    refine r_st (pc' := 37) (lv' := [(2, _), (0, _), (1, _)]) rfl rfl rfl rfl ?_
    have hb162 := rd_225_53 hz
    have hb163 := rd_225_54 hz
    exact w_lv (sub_c rfl (sub_c rfl (sub_c rfl sub_n))) rfl ((key ((80 * (36 - 0) + 21654 : Int).toNat + 1)).1 0 z158 w152 ⟨by omega, by omega⟩ hs160 ((((congrFun (congrFun hq159 _) _).trans (mu_ne (by omega))).trans ((hs155.2.2.1 _ _ (notS_c (by omega) (notS_c (by omega) (notS_c (by omega) (notS_c (by omega) (notS_c (by omega) (notS_c (by omega) (notS_c (by omega) (notS_c (by omega) notS_n))))))))).trans (((congrFun (congrFun hq143 _) _).trans (mu_ne (by omega))).trans ((congrFun (congrFun hq140 _) _).trans (mu_ne (by omega))))))) ((((congrFun (congrFun hq159 _) _).trans (mu_ne (by omega))).trans ((hs155.2.2.1 _ _ (notS_c (by omega) (notS_c (by omega) (notS_c (by omega) (notS_c (by omega) (notS_c (by omega) (notS_c (by omega) (notS_c (by omega) (notS_c (by omega) notS_n))))))))).trans (((congrFun (congrFun hq143 _) _).trans (mu_ne (by omega))).trans ((congrFun (congrFun hq140 _) _).trans (mu_ne (by omega))))))) (by first | exact asC | exact hcn3) (by first | (intro s hs; exfalso; omega) | (intro s hs; rw [hqw]; by_cases c : s = x2.toNat; (subst c; exact mu_eq); (rw [mu_ne (by omega)]; exact as1 s (by omega)))) (by first | exact asF | exact ⟨((((congrFun (congrFun hq159 _) _).trans (mu_ne (by omega))).trans ((hs155.2.2.1 _ _ (notS_c (by omega) (notS_c (by omega) (notS_c (by omega) (notS_c (by omega) (notS_c (by omega) (notS_c (by omega) (notS_c (by omega) (notS_c (by omega) notS_n))))))))).trans (((congrFun (congrFun hq143 _) _).trans (mu_ne (by omega))).trans ((congrFun (congrFun hq140 _) _).trans (mu_ne (by omega))))))).trans asF.1, ((((congrFun (congrFun hq159 _) _).trans (mu_ne (by omega))).trans ((hs155.2.2.1 _ _ (notS_c (by omega) (notS_c (by omega) (notS_c (by omega) (notS_c (by omega) (notS_c (by omega) (notS_c (by omega) (notS_c (by omega) (notS_c (by omega) notS_n))))))))).trans (((congrFun (congrFun hq143 _) _).trans (mu_ne (by omega))).trans ((congrFun (congrFun hq140 _) _).trans (mu_ne (by omega))))))).trans asF.2⟩ | exact ⟨((((congrFun (congrFun hq159 _) _).trans (mu_ne (by omega))).trans ((hs155.2.2.1 _ _ (notS_c (by omega) (notS_c (by omega) (notS_c (by omega) (notS_c (by omega) (notS_c (by omega) (notS_c (by omega) (notS_c (by omega) (notS_c (by omega) notS_n))))))))).trans ((congrFun (congrFun hq143 _) _).trans (mu_ne (by omega)))))).trans ((congrFun (congrFun hqa _) _).trans mu_eq), ((((congrFun (congrFun hq159 _) _).trans (mu_ne (by omega))).trans (hs155.2.2.1 _ _ (notS_c (by omega) (notS_c (by omega) (notS_c (by omega) (notS_c (by omega) (notS_c (by omega) (notS_c (by omega) (notS_c (by omega) (notS_c (by omega) notS_n))))))))))).trans ((congrFun (congrFun hqb _) _).trans mu_eq)⟩) (by first | exact asO | exact OTH_c (OTH_0 z0 a1.toNat) (fun a j h1 h2 h3 h4 => (((congrFun (congrFun hq159 _) _).trans (mu_ne (by omega))).trans ((hs155.2.2.1 _ _ (notS_c (by omega) (notS_c (by omega) (notS_c (by omega) (notS_c (by omega) (notS_c (by omega) (notS_c (by omega) (notS_c (by omega) (notS_c (by omega) notS_n))))))))).trans (((congrFun (congrFun hq143 _) _).trans (mu_ne (by omega))).trans ((congrFun (congrFun hq140 _) _).trans (mu_ne (by omega))))))) | exact OTH_c asO (fun a j h1 h2 h3 h4 => (((congrFun (congrFun hq159 _) _).trans (mu_ne (by omega))).trans ((hs155.2.2.1 _ _ (notS_c (by omega) (notS_c (by omega) (notS_c (by omega) (notS_c (by omega) (notS_c (by omega) (notS_c (by omega) (notS_c (by omega) (notS_c (by omega) notS_n))))))))).trans (((congrFun (congrFun hq143 _) _).trans (mu_ne (by omega))).trans ((congrFun (congrFun hq140 _) _).trans (mu_ne (by omega)))))))) (by first | exact asS | exact ⟨((((congrFun (congrFun hq159 _) _).trans (mu_ne (by omega))).trans ((hs155.2.2.1 _ _ (notS_c (by omega) (notS_c (by omega) (notS_c (by omega) (notS_c (by omega) (notS_c (by omega) (notS_c (by omega) (notS_c (by omega) (notS_c (by omega) notS_n))))))))).trans (((congrFun (congrFun hq143 _) _).trans (mu_ne (by omega))).trans ((congrFun (congrFun hq140 _) _).trans (mu_ne (by omega))))))).trans asS.1, asS.2⟩ | exact ⟨(rfl).trans ((congrFun (congrFun hqc _) _).trans (mu_eq.trans (by omega))), hsg2.1 (by omega)⟩) (by first | exact asP | exact fun j hj => ((((congrFun (congrFun hq159 _) _).trans (mu_ne (by omega))).trans ((hs155.2.2.1 _ _ (notS_c (by omega) (notS_c (by omega) (notS_c (by omega) (notS_c (by omega) (notS_c (by omega) (notS_c (by omega) (notS_c (by omega) (notS_c (by omega) notS_n))))))))).trans (((congrFun (congrFun hq143 _) _).trans (mu_ne (by omega))).trans ((congrFun (congrFun hq140 _) _).trans (mu_ne (by omega))))))).trans (asP j hj) | exact fun j hj => (rfl).trans ((congrFun (congrFun hqc _) _).trans ((mu_ne (by omega)).trans (cp3 j)))) (by omega))
  · skip
    exact r_ret rfl (po_V hs160 ⟨rfl, (by refine ⟨fun q => ?_, OTH_c (OTH_0 z0 a1.toNat) (fun a j h1 h2 h3 h4 => (((congrFun (congrFun hq159 _) _).trans (mu_ne (by omega))).trans ((hs155.2.2.1 _ _ (notS_c (by omega) (notS_c (by omega) (notS_c (by omega) (notS_c (by omega) (notS_c (by omega) (notS_c (by omega) (notS_c (by omega) (notS_c (by omega) notS_n))))))))).trans (((congrFun (congrFun hq143 _) _).trans (mu_ne (by omega))).trans ((congrFun (congrFun hq140 _) _).trans (mu_ne (by omega))))))), fun j hj => (rfl).trans ((congrFun (congrFun hqc _) _).trans ((mu_ne (by omega)).trans (cp3 j))), Or.inl ⟨(rfl).trans ((congrFun (congrFun hqc _) _).trans (mu_eq.trans (by omega))), ((((congrFun (congrFun hq159 _) _).trans (mu_ne (by omega))).trans (hs155.2.2.1 _ _ (notS_c (by omega) (notS_c (by omega) (notS_c (by omega) (notS_c (by omega) (notS_c (by omega) (notS_c (by omega) (notS_c (by omega) (notS_c (by omega) notS_n))))))))))).trans ((congrFun (congrFun hqb _) _).trans mu_eq), hsg2.2 (by omega)⟩⟩; (have e9 : z158 254 a1.toNat = 0 := ((((congrFun (congrFun hq159 _) _).trans (mu_ne (by omega))).trans (hs155.2.2.1 _ _ (notS_c (by omega) (notS_c (by omega) (notS_c (by omega) (notS_c (by omega) (notS_c (by omega) (notS_c (by omega) (notS_c (by omega) (notS_c (by omega) notS_n))))))))))).trans ((congrFun (congrFun hqb _) _).trans mu_eq)); omega)⟩)
