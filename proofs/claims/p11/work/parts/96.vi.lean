/-! methods, printed by wip/tools/vcg.py -/
/-- LoopGroundModel layOver -/
abbrev S_176y  : mS := [(241, 241, 0, 17), (240, 240, 0, 35)]
abbrev E_176y  (z0 w0 : mZ) (x y tx it mt tt ct : Option Nat) : mZ → mZ → mP → Prop := fun z w p => p = (pq x y tx it mt tt ct) ∧ (RW z ∧ FLr z)
theorem m_176y {d : Nat} {z0 w0 : mZ} {x y tx it mt tt ct : Option Nat}  (hz : rz z0) (hw : rw_ w0) (hly : LY (z0 225 26) (rE z0) (z0 235)) : wc (d + 1) 176 [.ref 225] (mk z0 w0 (pq x y tx it mt tt ct)) (poV S_176y z0 w0 (E_176y  z0 w0 x y tx it mt tt ct)) := by
  have hst : st_ S_176y z0 w0 z0 w0 := st_rf hz hw
  have hz19 := rd_225_26 hz
  have hm26 := rd_225_26 hz
  have hrE : rE z0 = 3 * z0 225 26 / 2 := rfl
  have key : ∀ N : Nat, (∀ (x1 : Int) (z w : mZ), 0 ≤ x1 ∧ x1 ≤ 18 → st_ S_176y z0 w0 z w → (∀ e : Nat, (e : Int) < x1 → z 241 e = -1) → 55 * (18 - x1) + 2142 < (N : Int) → wp_ (d) 176 3 none (2, [(0, .ref 225), (1, .int (Int32.ofInt x1))], [], mk z w (pq x y tx it mt tt ct)) (poV S_176y z0 w0 (E_176y  z0 w0 x y tx it mt tt ct))) ∧ (∀ (x1 : Int) (z w : mZ), 0 ≤ x1 ∧ x1 ≤ 36 → st_ S_176y z0 w0 z w → (LO (rE z0) (z0 235) (z 240) (z 241) x1) → (x1 ≤ 3 * z0 225 26) → 55 * (36 - x1) + 40 < (N : Int) → wp_ (d) 176 3 none (23, [(0, .ref 225), (1, .int (Int32.ofInt x1))], [], mk z w (pq x y tx it mt tt ct)) (poV S_176y z0 w0 (E_176y  z0 w0 x y tx it mt tt ct))) := by
    intro N
    induction N with
    | zero =>
      refine ⟨?_, ?_⟩
      · intro x1 z w
        intros; exfalso; omega
      · intro x1 z w
        intros; exfalso; omega
    | succ N ih =>
      obtain ⟨ih0, ih1⟩ := ih
      refine ⟨?_, ?_⟩
      · intro x1 z w  hx1 hst as1 hM
        refine r_ld (pc' := 3) rfl rfl rfl rfl ?_
        refine r_cb (pc' := 5) rfl (by decide) rfl ?_
        refine r_ige (pc' := 8) rfl rfl ⟨by omega, by omega⟩ ⟨by decide, by decide⟩ (fun hc20 => ?_) (fun hc20 => ?_)
        · skip
          refine r_c0 (pc' := 22) rfl rfl ?_
          refine r_st (pc' := 23) (lv' := [(1, _), (0, _)]) rfl rfl rfl rfl ?_
          exact w_lv (sub_c rfl (sub_c rfl sub_n)) rfl (ih1 0 z w ⟨by omega, by omega⟩ hst (by first | exact LO_0 (fun e he => as1 e (by omega)) | (rw [show z 240 = z 240 from funext fun i => rfl]; exact LO_a as1 (by omega) (e0 := (z0 235 x1.toNat).toNat) (by omega) (by omega) (fun j hj => by rw [hqa]; exact mu_ne (by omega)) (by rw [hqa]; exact mu_eq)) | (rw [show z 241 = z 241 from funext fun i => rfl]; exact LO_b hly as1 (by omega) (by omega) (e0 := (z0 235 x1.toNat).toNat) (by omega) (by omega) (fun j h1 h2 => by rw [hqc, mu_ne (by omega), hqb, mu_ne (by omega)]) (by rw [hqc, mu_ne (by omega), hqb, mu_eq]) (by rw [hqc]; exact mu_eq))) (by first | omega | assumption) (by omega))
        · skip
          refine r_ld (pc' := 9) rfl rfl rfl rfl ?_
          refine r_gr (b := 241) (pc' := 12) rfl rfl sh_225 rfl pp_225_30 ?_
          refine r_ld (pc' := 13) rfl rfl rfl rfl ?_
          refine r_c0 (pc' := 14) rfl rfl ?_
          refine r_is (pc' := 15) rfl rfl sh_241 rfl (by omega) (by omega) hst (inS_0 (by omega) (by omega) (by omega) (by omega)) (wr_241 ⟨by omega, by omega⟩) (fun z21 hq22 hs23 => ?_)
          have hqm := hq22
          refine r_inc (pc' := 18) (lv' := [(0, _)]) rfl rfl rfl rfl rfl ?_
          refine r_go rfl ?_
          exact w_lv (sub_c rfl (sub_c rfl sub_n)) rfl (ih0 (x1 + 1) z21 w ⟨by omega, by omega⟩ hs23 (by first | (intro e he; exfalso; omega) | (intro e he; rw [hqm]; by_cases c : e = x1.toNat; (subst c; exact mu_eq); (rw [mu_ne (by omega)]; exact as1 e (by omega)))) (by omega))
      · intro x1 z w  hx1 hst as1 as2 hM
        refine r_ld (pc' := 24) rfl rfl rfl rfl ?_
        refine r_c0 (pc' := 25) rfl rfl ?_
        refine r_ld (pc' := 26) rfl rfl rfl rfl ?_
        have hb24 := rd_225_26 hz
        refine r_gi (pc' := 29) rfl rfl sh_225 rfl (hst.2.2.1 _ _ (notS_c (by omega) (notS_c (by omega) notS_n))) ?_
        refine r_mul (pc' := 30) rfl rfl ?_
        refine r_ige (pc' := 33) rfl rfl ⟨by omega, by omega⟩ ⟨by omega, by omega⟩ (fun hc25 => ?_) (fun hc25 => ?_)
        · skip
          exact r_ret rfl (po_V hst ⟨rfl, (by refine ⟨?_, ?_⟩; (have k := LO_end hly as1 (by omega); unfold RW rE; rw [show z 225 26 = z0 225 26 from hst.2.2.1 _ _ (notS_c (by omega) (notS_c (by omega) (notS_n))), show z 235 = z0 235 from funext fun i => hst.2.2.1 _ _ (notS_c (by omega) (notS_c (by omega) (notS_n)))]; exact k); (intro e he; rw [show rE z = rE z0 from by show 3 * z 225 26 / 2 = 3 * z0 225 26 / 2; rw [show z 225 26 = z0 225 26 from hst.2.2.1 _ _ (notS_c (by omega) (notS_c (by omega) (notS_n)))]] at he; exact LO_fl hly as1 (by omega) e he))⟩)
        · skip
          refine r_ld (pc' := 34) rfl rfl rfl rfl ?_
          refine r_gr (b := 235) (pc' := 37) rfl rfl sh_225 rfl pp_225_18 ?_
          refine r_ld (pc' := 38) rfl rfl rfl rfl ?_
          have hb26 := rd_235 hz (i := x1.toNat) (by omega)
          refine r_ia (pc' := 39) rfl rfl sh_235 rfl (by omega) (by omega) (hst.2.2.1 _ _ (notS_c (by omega) (notS_c (by omega) notS_n))) ?_
          refine r_st (pc' := 40) (lv' := [(2, _), (0, _), (1, _)]) rfl rfl rfl rfl ?_
          have hE0 := hly.2.2.2.1 x1.toNat (by omega)
          refine r_ld (pc' := 41) rfl rfl rfl rfl ?_
          refine r_gr (b := 241) (pc' := 44) rfl rfl sh_225 rfl pp_225_30 ?_
          refine r_ld (pc' := 45) rfl rfl rfl rfl ?_
          have hb27 := rd_241 hst.1 (i := (z0 235 x1.toNat).toNat) (by omega)
          refine r_ia (pc' := 46) rfl rfl sh_241 rfl (by omega) (by omega) rfl ?_
          refine r_zge (pc' := 49) rfl rfl ⟨by omega, by omega⟩ (fun hc28 => ?_) (fun hc28 => ?_)
          · skip
            refine r_ld (pc' := 60) rfl rfl rfl rfl ?_
            have hlt := LO_lt as1 (e := (z0 235 x1.toNat).toNat) (by omega) (by omega)
            refine r_gr (b := 240) (pc' := 63) rfl rfl sh_225 rfl pp_225_29 ?_
            refine r_ld (pc' := 64) rfl rfl rfl rfl ?_
            refine r_ld (pc' := 65) rfl rfl rfl rfl ?_
            refine r_gr (b := 241) (pc' := 68) rfl rfl sh_225 rfl pp_225_30 ?_
            refine r_ld (pc' := 69) rfl rfl rfl rfl ?_
            refine r_ia (pc' := 70) rfl rfl sh_241 rfl (by omega) (by omega) rfl ?_
            refine r_is (pc' := 71) rfl rfl sh_240 rfl (by omega) (by omega) hst (inS_s (inS_0 (by omega) (by omega) (by omega) (by omega))) (wr_240 ⟨by omega, by omega⟩) (fun z29 hq30 hs31 => ?_)
            have hqb := hq30
            refine r_ld (pc' := 72) rfl rfl rfl rfl ?_
            refine r_gr (b := 240) (pc' := 75) rfl rfl sh_225 rfl pp_225_29 ?_
            refine r_ld (pc' := 76) rfl rfl rfl rfl ?_
            refine r_gr (b := 241) (pc' := 79) rfl rfl sh_225 rfl pp_225_30 ?_
            refine r_ld (pc' := 80) rfl rfl rfl rfl ?_
            refine r_ia (pc' := 81) rfl rfl sh_241 rfl (by omega) (by omega) ((congrFun (congrFun hq30 _) _).trans (mu_ne (by omega))) ?_
            refine r_ld (pc' := 82) rfl rfl rfl rfl ?_
            refine r_is (pc' := 83) rfl rfl sh_240 rfl (by omega) (by omega) hs31 (inS_s (inS_0 (by omega) (by omega) (by omega) (by omega))) (wr_240 ⟨by omega, by omega⟩) (fun z32 hq33 hs34 => ?_)
            have hqc := hq33
            refine r_inc (pc' := 86) (lv' := [(2, _), (0, _)]) rfl rfl rfl rfl rfl ?_
            refine r_go rfl ?_
            have hF35 : z32 241 = z 241 := (((congrFun hq33 _).trans (mu_fn (by omega))).trans ((congrFun hq30 _).trans (mu_fn (by omega))))
            exact w_lv (sub_c rfl (sub_c rfl sub_n)) rfl (ih1 (x1 + 1) z32 w ⟨by omega, by omega⟩ hs34 (by first | exact LO_0 (fun e he => as1 e (by omega)) | (rw [show z32 240 = z 240 from funext fun i => (((congrFun (congrFun hq33 _) _).trans (mu_ne (by omega))).trans ((congrFun (congrFun hq30 _) _).trans (mu_ne (by omega))))]; exact LO_a as1 (by omega) (e0 := (z0 235 x1.toNat).toNat) (by omega) (by omega) (fun j hj => by rw [hqa]; exact mu_ne (by omega)) (by rw [hqa]; exact mu_eq)) | (rw [show z32 241 = z 241 from funext fun i => (((congrFun (congrFun hq33 _) _).trans (mu_ne (by omega))).trans ((congrFun (congrFun hq30 _) _).trans (mu_ne (by omega))))]; exact LO_b hly as1 (by omega) (by omega) (e0 := (z0 235 x1.toNat).toNat) (by omega) (by omega) (fun j h1 h2 => by rw [hqc, mu_ne (by omega), hqb, mu_ne (by omega)]) (by rw [hqc, mu_ne (by omega), hqb, mu_eq]) (by rw [hqc]; exact mu_eq))) (by first | omega | assumption | (simp only [hF35]; assumption)) (by omega))
          · skip
            refine r_ld (pc' := 50) rfl rfl rfl rfl ?_
            refine r_gr (b := 241) (pc' := 53) rfl rfl sh_225 rfl pp_225_30 ?_
            refine r_ld (pc' := 54) rfl rfl rfl rfl ?_
            refine r_ld (pc' := 55) rfl rfl rfl rfl ?_
            refine r_is (pc' := 56) rfl rfl sh_241 rfl (by omega) (by omega) hst (inS_0 (by omega) (by omega) (by omega) (by omega)) (wr_241 ⟨by omega, by omega⟩) (fun z36 hq37 hs38 => ?_)
            have hqa := hq37
            refine r_go rfl ?_
            refine r_inc (pc' := 86) (lv' := [(2, _), (0, _)]) rfl rfl rfl rfl rfl ?_
            refine r_go rfl ?_
            have hF39 : z36 240 = z 240 := ((congrFun hq37 _).trans (mu_fn (by omega)))
            exact w_lv (sub_c rfl (sub_c rfl sub_n)) rfl (ih1 (x1 + 1) z36 w ⟨by omega, by omega⟩ hs38 (by first | exact LO_0 (fun e he => as1 e (by omega)) | (rw [show z36 240 = z 240 from funext fun i => ((congrFun (congrFun hq37 _) _).trans (mu_ne (by omega)))]; exact LO_a as1 (by omega) (e0 := (z0 235 x1.toNat).toNat) (by omega) (by omega) (fun j hj => by rw [hqa]; exact mu_ne (by omega)) (by rw [hqa]; exact mu_eq)) | (rw [show z36 241 = z 241 from funext fun i => ((congrFun (congrFun hq37 _) _).trans (mu_ne (by omega)))]; exact LO_b hly as1 (by omega) (by omega) (e0 := (z0 235 x1.toNat).toNat) (by omega) (by omega) (fun j h1 h2 => by rw [hqc, mu_ne (by omega), hqb, mu_ne (by omega)]) (by rw [hqc, mu_ne (by omega), hqb, mu_eq]) (by rw [hqc]; exact mu_eq))) (by first | omega | assumption | (simp only [hF39]; assumption)) (by omega))
  refine w_m rfl rfl ?_
  refine r_c0 (pc' := 1) rfl rfl ?_
  refine r_st (pc' := 2) (lv' := [(1, _), (0, _)]) rfl rfl rfl rfl ?_
  exact w_lv (sub_c rfl (sub_c rfl sub_n)) rfl ((key ((55 * (18 - 0) + 2142 : Int).toNat + 1)).1 0 z0 w0 ⟨by omega, by omega⟩ hst (by first | (intro e he; exfalso; omega) | (intro e he; rw [hqm]; by_cases c : e = x1.toNat; (subst c; exact mu_eq); (rw [mu_ne (by omega)]; exact as1 e (by omega)))) (by omega))
/-- LoopGroundModel turned -/
abbrev S_177b  : mS := []
abbrev E_177b (a0 : Int) (a1 : Int) (z0 w0 : mZ) (x y tx it mt tt ct : Option Nat) : Int → mZ → mZ → mP → Prop := fun v z w p => p = (pq x y tx it mt tt ct) ∧ z0 = z ∧ w0 = w ∧ 0 ≤ v ∧ v ≤ 35 ∧ ((a0 % 3 = 2 → v = a0 - 2) ∧ (a0 % 3 ≠ 2 → v = a0 + 1))
theorem m_177b {d : Nat} {z0 w0 : mZ} {x y tx it mt tt ct : Option Nat} (a0 : Int) (a1 : Int) (hz : rz z0) (hw : rw_ w0) (ha0 : 0 ≤ a0 ∧ a0 ≤ 35) (ha1 : 1 ≤ a1 ∧ a1 ≤ 1) : wc (d + 1) 177 [.int (Int32.ofInt a0), .int (Int32.ofInt a1)] (mk z0 w0 (pq x y tx it mt tt ct)) (poI S_177b z0 w0 (E_177b a0 a1 z0 w0 x y tx it mt tt ct)) := by
  have hst : st_ S_177b z0 w0 z0 w0 := st_rf hz hw
  refine w_m rfl rfl ?_
  refine r_ld (pc' := 1) rfl rfl rfl rfl ?_
  refine r_c0 (pc' := 2) rfl rfl ?_
  refine r_dv (pc' := 3) (v := a0 / 3) rfl rfl ⟨by omega, by omega⟩ ⟨by decide, by decide⟩ (by decide) (tdiv_n (by omega)) ?_
  refine r_c0 (pc' := 4) rfl rfl ?_
  refine r_mul (pc' := 5) rfl rfl ?_
  refine r_ld (pc' := 6) rfl rfl rfl rfl ?_
  refine r_c0 (pc' := 7) rfl rfl ?_
  refine r_rm (pc' := 8) (v := a0 % 3) rfl rfl ⟨by omega, by omega⟩ ⟨by decide, by decide⟩ (by decide) (tmod_n (by omega)) ?_
  refine r_ld (pc' := 9) rfl rfl rfl rfl ?_
  refine r_add (pc' := 10) rfl rfl ?_
  refine r_c0 (pc' := 11) rfl rfl ?_
  refine r_rm (pc' := 12) (v := ((a0 % 3) + a1) % 3) rfl rfl ⟨by omega, by omega⟩ ⟨by decide, by decide⟩ (by decide) (tmod_n (by omega)) ?_
  refine r_add (pc' := 13) rfl rfl ?_
  exact r_ri rfl (po_I hst ⟨by omega, by omega⟩ ⟨rfl, rfl, rfl, by omega, by omega, (by first | omega | assumption)⟩)
/-- LoopGroundModel point -/
abbrev S_179x  : mS := []
abbrev E_179x (a1 : Int) (a2 : Int) (z0 w0 : mZ) (x y tx it mt tt ct : Option Nat) : Int → mZ → mZ → mP → Prop := fun v z w p => p = (pq x y tx it mt tt ct) ∧ z0 = z ∧ w0 = w ∧ (-1) ≤ v ∧ v ≤ 35 ∧ ((0 ≤ a1 → a1 < z0 225 26 → 0 ≤ a2 → a2 ≤ 2 → v = z0 242 (3 * a1 + a2).toNat) ∧ ((a1 < 0 ∨ z0 225 26 ≤ a1 ∨ a2 < 0 ∨ 2 < a2) → v = -1))
theorem m_179x {d : Nat} {z0 w0 : mZ} {x y tx it mt tt ct : Option Nat} (a1 : Int) (a2 : Int) (hz : rz z0) (hw : rw_ w0) (ha1 : (-2147483648) ≤ a1 ∧ a1 ≤ 2147483647) (ha2 : (-2147483648) ≤ a2 ∧ a2 ≤ 2147483647) : wc (d + 1) 179 [.ref 225, .int (Int32.ofInt a1), .int (Int32.ofInt a2)] (mk z0 w0 (pq x y tx it mt tt ct)) (poI S_179x z0 w0 (E_179x a1 a2 z0 w0 x y tx it mt tt ct)) := by
  have hst : st_ S_179x z0 w0 z0 w0 := st_rf hz hw
  have hz7 := rd_225_26 hz
  refine w_m rfl rfl ?_
  refine r_ld (pc' := 1) rfl rfl rfl rfl ?_
  refine r_zlt (pc' := 4) rfl rfl ⟨by omega, by omega⟩ (fun hc8 => ?_) (fun hc8 => ?_)
  · skip
    refine r_c0 (pc' := 22) rfl rfl ?_
    refine r_go rfl ?_
    exact r_ri rfl (po_I hst ⟨by decide, by decide⟩ ⟨rfl, rfl, rfl, by omega, by omega, (by first | exact ⟨fun _ _ _ _ => rfl, fun q => by exfalso; omega⟩ | exact ⟨fun _ _ _ _ => by exfalso; omega, fun _ => rfl⟩)⟩)
  · skip
    refine r_ld (pc' := 5) rfl rfl rfl rfl ?_
    refine r_ld (pc' := 6) rfl rfl rfl rfl ?_
    have hb9 := rd_225_26 hz
    refine r_gi (pc' := 9) rfl rfl sh_225 rfl rfl ?_
    refine r_ige (pc' := 12) rfl rfl ⟨by omega, by omega⟩ ⟨by omega, by omega⟩ (fun hc10 => ?_) (fun hc10 => ?_)
    · skip
      refine r_c0 (pc' := 22) rfl rfl ?_
      refine r_go rfl ?_
      exact r_ri rfl (po_I hst ⟨by decide, by decide⟩ ⟨rfl, rfl, rfl, by omega, by omega, (by first | exact ⟨fun _ _ _ _ => rfl, fun q => by exfalso; omega⟩ | exact ⟨fun _ _ _ _ => by exfalso; omega, fun _ => rfl⟩)⟩)
    · skip
      refine r_ld (pc' := 13) rfl rfl rfl rfl ?_
      refine r_zlt (pc' := 16) rfl rfl ⟨by omega, by omega⟩ (fun hc11 => ?_) (fun hc11 => ?_)
      · skip
        refine r_c0 (pc' := 22) rfl rfl ?_
        refine r_go rfl ?_
        exact r_ri rfl (po_I hst ⟨by decide, by decide⟩ ⟨rfl, rfl, rfl, by omega, by omega, (by first | exact ⟨fun _ _ _ _ => rfl, fun q => by exfalso; omega⟩ | exact ⟨fun _ _ _ _ => by exfalso; omega, fun _ => rfl⟩)⟩)
      · skip
        refine r_ld (pc' := 17) rfl rfl rfl rfl ?_
        refine r_c0 (pc' := 18) rfl rfl ?_
        refine r_ile (pc' := 21) rfl rfl ⟨by omega, by omega⟩ ⟨by decide, by decide⟩ (fun hc12 => ?_) (fun hc12 => ?_)
        · skip
          refine r_ld (pc' := 26) rfl rfl rfl rfl ?_
          refine r_gr (b := 242) (pc' := 29) rfl rfl sh_225 rfl pp_225_31 ?_
          refine r_c0 (pc' := 30) rfl rfl ?_
          refine r_ld (pc' := 31) rfl rfl rfl rfl ?_
          refine r_mul (pc' := 32) rfl rfl ?_
          refine r_ld (pc' := 33) rfl rfl rfl rfl ?_
          refine r_add (pc' := 34) rfl rfl ?_
          have hb13 := rd_242 hz (i := ((3 * a1) + a2).toNat) (by omega)
          refine r_ia (pc' := 35) rfl rfl sh_242 rfl (by omega) (by omega) rfl ?_
          exact r_ri rfl (po_I hst ⟨by omega, by omega⟩ ⟨rfl, rfl, rfl, by omega, by omega, (by first | exact ⟨fun _ _ _ _ => rfl, fun q => by exfalso; omega⟩ | exact ⟨fun _ _ _ _ => by exfalso; omega, fun _ => rfl⟩)⟩)
        · skip
          refine r_c0 (pc' := 22) rfl rfl ?_
          refine r_go rfl ?_
          exact r_ri rfl (po_I hst ⟨by decide, by decide⟩ ⟨rfl, rfl, rfl, by omega, by omega, (by first | exact ⟨fun _ _ _ _ => rfl, fun q => by exfalso; omega⟩ | exact ⟨fun _ _ _ _ => by exfalso; omega, fun _ => rfl⟩)⟩)
/-- LoopGroundModel points -/
abbrev S_178p  : mS := [(225, 225, 32, 32), (242, 242, 0, 35)]
abbrev E_178p  (z0 w0 : mZ) (x y tx it mt tt ct : Option Nat) : mZ → mZ → mP → Prop := fun z w p => p = (pq x y tx it mt tt ct) ∧ (PQ (z0 240) (3 * z0 225 26).toNat (3 * z0 225 26).toNat (z 242) (z 225 32))
theorem m_178p {d : Nat} {z0 w0 : mZ} {x y tx it mt tt ct : Option Nat}  (hz : rz z0) (hw : rw_ w0) (hcl : ∀ s : Nat, (s : Int) < 3 * z0 225 26 → 0 ≤ z0 240 s ∧ z0 240 s < 3 * z0 225 26) : wc (d + 2) 178 [.ref 225] (mk z0 w0 (pq x y tx it mt tt ct)) (poV S_178p z0 w0 (E_178p  z0 w0 x y tx it mt tt ct)) := by
  have hst : st_ S_178p z0 w0 z0 w0 := st_rf hz hw
  have hz32 := rd_225_26 hz
  have h26 := rd_225_26 hz
  have key : ∀ N : Nat, (∀ (x1 : Int) (z w : mZ), 0 ≤ x1 ∧ x1 ≤ 36 → st_ S_178p z0 w0 z w → (z 225 32 = 0) → (∀ i : Nat, (i : Int) < x1 → z 242 i = -1) → 100000 + (36 - x1) < (N : Int) → wp_ (d + 1) 178 3 none (7, [(0, .ref 225), (1, .int (Int32.ofInt x1))], [], mk z w (pq x y tx it mt tt ct)) (poV S_178p z0 w0 (E_178p  z0 w0 x y tx it mt tt ct))) ∧ (∀ (x1 : Int) (z w : mZ), 0 ≤ x1 ∧ x1 ≤ 36 → st_ S_178p z0 w0 z w → (z 225 32 ≤ x1) → (PQ (z0 240) (3 * z0 225 26).toNat x1.toNat (z 242) (z 225 32)) → (x1 ≤ 3 * z0 225 26) → 100 * (36 - x1) + 60 < (N : Int) → wp_ (d + 1) 178 3 none (28, [(0, .ref 225), (1, .int (Int32.ofInt x1))], [], mk z w (pq x y tx it mt tt ct)) (poV S_178p z0 w0 (E_178p  z0 w0 x y tx it mt tt ct))) ∧ (∀ (x1 x2 : Int) (z w : mZ), 0 ≤ x1 ∧ x1 ≤ 35 → 0 ≤ x2 ∧ x2 ≤ 35 → 1 ≤ z0 225 26 ∧ z0 225 26 ≤ 12 → st_ S_178p z0 w0 z w → (z 225 32 ≤ x1) → (∃ k, MI (z0 240) (ptf (z0 240) x1.toNat).2 (3 * z0 225 26).toNat (ptf (z0 240) x1.toNat).1 x1.toNat k (z 242) x2) → (z 225 32 = (ptf (z0 240) x1.toNat).2) → (x1 < 3 * z0 225 26) → ((ptf (z0 240) x1.toNat).1 x1.toNat = -1) → 100 * (36 - x1) + 10 + ng_ z < (N : Int) → wp_ (d + 1) 178 3 none (52, [(0, .ref 225), (1, .int (Int32.ofInt x1)), (2, .int (Int32.ofInt x2))], [], mk z w (pq x y tx it mt tt ct)) (poV S_178p z0 w0 (E_178p  z0 w0 x y tx it mt tt ct))) := by
    intro N
    induction N with
    | zero =>
      refine ⟨?_, ?_, ?_⟩
      · intro x1 z w
        intros; exfalso; omega
      · intro x1 z w
        intros; exfalso; omega
      · intro x1 x2 z w
        have hng := ng_b z
        intros; exfalso; omega
    | succ N ih =>
      obtain ⟨ih0, ih1, ih2⟩ := ih
      refine ⟨?_, ?_, ?_⟩
      · intro x1 z w  hx1 hst as1 as2 hM
        refine r_ld (pc' := 8) rfl rfl rfl rfl ?_
        refine r_cb (pc' := 10) rfl (by decide) rfl ?_
        refine r_ige (pc' := 13) rfl rfl ⟨by omega, by omega⟩ ⟨by decide, by decide⟩ (fun hc33 => ?_) (fun hc33 => ?_)
        · skip
          refine r_c0 (pc' := 27) rfl rfl ?_
          refine r_st (pc' := 28) (lv' := [(1, _), (0, _)]) rfl rfl rfl rfl ?_
          have hb34 := rd_225_32 hst.1
          exact w_lv (sub_c rfl (sub_c rfl sub_n)) rfl (ih1 0 z w ⟨by omega, by omega⟩ hst (by first | omega | assumption) (by first | exact PQ_0 (fun i hi => as2 i (by omega)) (by omega) rfl | exact PQ_k as2 (by omega) (by omega) (by omega) | exact PQ_n as5 as4 (fun i hi => by rw [as5]; exact MI_e hmi (Or.inl (by omega)) i hi) (funext fun i => rfl) (by omega) (by omega)) (by first | omega | assumption) (by omega))
        · skip
          refine r_ld (pc' := 14) rfl rfl rfl rfl ?_
          refine r_gr (b := 242) (pc' := 17) rfl rfl sh_225 rfl pp_225_31 ?_
          refine r_ld (pc' := 18) rfl rfl rfl rfl ?_
          refine r_c0 (pc' := 19) rfl rfl ?_
          refine r_is (pc' := 20) rfl rfl sh_242 rfl (by omega) (by omega) hst (inS_s (inS_0 (by omega) (by omega) (by omega) (by omega))) (wr_242 ⟨by omega, by omega⟩) (fun z35 hq36 hs37 => ?_)
          have hq3 := hq36
          refine r_inc (pc' := 23) (lv' := [(0, _)]) rfl rfl rfl rfl rfl ?_
          refine r_go rfl ?_
          have hb38 := rd_225_32 hst.1
          have hf39 : z35 225 32 = z 225 32 := ((congrFun (congrFun hq36 _) _).trans (mu_ne (by omega)))
          exact w_lv (sub_c rfl (sub_c rfl sub_n)) rfl (ih0 (x1 + 1) z35 w ⟨by omega, by omega⟩ hs37 (by first | omega | assumption | (simp only [hf39]; assumption)) (by first | (intro i hi; exfalso; omega) | (intro i hi; rw [hq3]; by_cases c : i = x1.toNat; (subst c; exact mu_eq); (rw [mu_ne (by omega)]; exact as2 i (by omega)))) (by omega))
      · intro x1 z w  hx1 hst as1 as2 as3 hM
        have hpb := PQ_b as2
        refine r_ld (pc' := 29) rfl rfl rfl rfl ?_
        refine r_c0 (pc' := 30) rfl rfl ?_
        refine r_ld (pc' := 31) rfl rfl rfl rfl ?_
        have hb40 := rd_225_26 hz
        refine r_gi (pc' := 34) rfl rfl sh_225 rfl (hst.2.2.1 _ _ (notS_c (by omega) (notS_c (by omega) notS_n))) ?_
        refine r_mul (pc' := 35) rfl rfl ?_
        refine r_ige (pc' := 38) rfl rfl ⟨by omega, by omega⟩ ⟨by omega, by omega⟩ (fun hc41 => ?_) (fun hc41 => ?_)
        · skip
          have hb42 := rd_225_32 hst.1
          exact r_ret rfl (po_V hst ⟨rfl, (by have e9 : x1.toNat = (3 * z0 225 26).toNat := (by omega); rw [e9] at as2; exact as2)⟩)
        · skip
          refine r_ld (pc' := 39) rfl rfl rfl rfl ?_
          refine r_gr (b := 242) (pc' := 42) rfl rfl sh_225 rfl pp_225_31 ?_
          refine r_ld (pc' := 43) rfl rfl rfl rfl ?_
          have hb43 := rd_242 hst.1 (i := x1.toNat) (by omega)
          refine r_ia (pc' := 44) rfl rfl sh_242 rfl (by omega) (by omega) rfl ?_
          refine r_zlt (pc' := 47) rfl rfl ⟨by omega, by omega⟩ (fun hc44 => ?_) (fun hc44 => ?_)
          · skip
            refine r_ld (pc' := 51) rfl rfl rfl rfl ?_
            refine r_st (pc' := 52) (lv' := [(2, _), (0, _), (1, _)]) rfl rfl rfl rfl ?_
            have hb45 := rd_225_32 hst.1
            have hng := ng_b z
            exact w_lv (sub_c rfl (sub_c rfl (sub_c rfl sub_n))) rfl (ih2 x1 x1 z w ⟨by omega, by omega⟩ ⟨by omega, by omega⟩ ⟨by omega, by omega⟩ hst (by first | omega | assumption) (by first | exact ⟨0, MI_0 (fun i hi => as2.1 i hi) (by omega) (by omega) (by have q9 := as2.2; omega) (by omega)⟩ | exact ⟨kk + 1, MI_s hmi (by omega) (fun i hi => by rw [hq7, as5]; by_cases c : i = x2.toNat; (subst c; rw [if_pos rfl]; exact mu_eq); (rw [if_neg c, mu_ne (by omega)])) (by rw [hbh]) (by omega) (by omega) rfl⟩) (by first | exact as2.2 | omega) (by first | omega | assumption) (by first | exact as4 | exact (as2.1 _ (by omega)).symm.trans (by omega)) (by omega))
          · skip
            refine r_go rfl ?_
            refine r_inc (pc' := 98) (lv' := [(0, _)]) rfl rfl rfl rfl rfl ?_
            refine r_go rfl ?_
            have hb46 := rd_225_32 hst.1
            exact w_lv (sub_c rfl (sub_c rfl sub_n)) rfl (ih1 (x1 + 1) z w ⟨by omega, by omega⟩ hst (by first | omega | assumption) (by first | exact PQ_0 (fun i hi => as2 i (by omega)) (by omega) rfl | exact PQ_k as2 (by omega) (by omega) (by omega) | exact PQ_n as5 as4 (fun i hi => by rw [as5]; exact MI_e hmi (Or.inl (by omega)) i hi) (funext fun i => rfl) (by omega) (by omega)) (by first | omega | assumption) (by omega))
      · intro x1 x2 z w  hx1 hx2 hz0_0 hst as1 as2 as5 as3 as4 hM
        have hng0 := ng_b z
        obtain ⟨kk, hmi⟩ := as2
        have hma := MI_a hmi
        refine r_ld (pc' := 53) rfl rfl rfl rfl ?_
        refine r_gr (b := 242) (pc' := 56) rfl rfl sh_225 rfl pp_225_31 ?_
        refine r_ld (pc' := 57) rfl rfl rfl rfl ?_
        have hb47 := rd_242 hst.1 (i := x2.toNat) (by omega)
        refine r_ia (pc' := 58) rfl rfl sh_242 rfl (by omega) (by omega) rfl ?_
        refine r_zge (pc' := 61) rfl rfl ⟨by omega, by omega⟩ (fun hc48 => ?_) (fun hc48 => ?_)
        · skip
          refine r_ld (pc' := 86) rfl rfl rfl rfl ?_
          refine r_al (pc' := 87) rfl rfl rfl rfl ?_
          have hb49 := rd_225_32 hst.1
          refine r_gi (pc' := 90) rfl rfl sh_225 rfl rfl ?_
          refine r_c0 (pc' := 91) rfl rfl ?_
          refine r_add (pc' := 92) rfl rfl ?_
          refine r_pi (pc' := 95) rfl rfl sh_225 rfl rfl hst (inS_0 (by omega) (by omega) (by omega) (by omega)) (wr_225_32 ⟨by omega, by omega⟩) (fun z50 hq51 hs52 => ?_)
          refine r_inc (pc' := 98) (lv' := [(0, _), (2, _)]) rfl rfl rfl rfl rfl ?_
          refine r_go rfl ?_
          have hf53 : z50 225 32 = (z 225 32) + 1 := ((congrFun (congrFun hq51 _) _).trans mu_eq)
          have hF54 : z50 242 = z 242 := ((congrFun hq51 _).trans (mu_fn (by omega)))
          exact w_lv (sub_c rfl (sub_c rfl sub_n)) rfl (ih1 (x1 + 1) z50 w ⟨by omega, by omega⟩ hs52 (by first | omega | assumption | (simp only [hF54, hf53]; assumption)) (by first | exact PQ_0 (fun i hi => as2 i (by omega)) (by omega) rfl | exact PQ_k as2 (by omega) (by omega) (by omega) | exact PQ_n as5 as4 (fun i hi => by rw [as5]; exact MI_e hmi (Or.inl (by omega)) i hi) (funext fun i => ((congrFun (congrFun hq51 _) _).trans (mu_ne (by omega)))) (by omega) (by omega)) (by first | omega | assumption | (simp only [hF54, hf53]; assumption)) (by omega))
        · skip
          refine r_ld (pc' := 62) rfl rfl rfl rfl ?_
          refine r_gr (b := 242) (pc' := 65) rfl rfl sh_225 rfl pp_225_31 ?_
          refine r_ld (pc' := 66) rfl rfl rfl rfl ?_
          refine r_ld (pc' := 67) rfl rfl rfl rfl ?_
          have hb55 := rd_225_32 hst.1
          refine r_gi (pc' := 70) rfl rfl sh_225 rfl rfl ?_
          refine r_is (pc' := 71) rfl rfl sh_242 rfl (by omega) (by omega) hst (inS_s (inS_0 (by omega) (by omega) (by omega) (by omega))) (wr_242 ⟨by omega, by omega⟩) (fun z56 hq57 hs58 => ?_)
          have hnw := ng_w hq57 (by omega) (by omega) (by omega)
          have hq7 := hq57
          refine r_ld (pc' := 72) rfl rfl rfl rfl ?_
          refine r_gr (b := 240) (pc' := 75) rfl rfl sh_225 rfl pp_225_29 ?_
          refine r_ld (pc' := 76) rfl rfl rfl rfl ?_
          refine r_c0 (pc' := 77) rfl rfl ?_
          refine r_cSI (pc' := 80) rfl rfl rfl rfl rfl (m_177b (d := d) x2 1 hs58.1 hs58.2.1 ⟨by omega, by omega⟩ ⟨by omega, by omega⟩) (fun v59 z60 w61 p62 h63 hs64 hE65 => ?_)
          obtain ⟨rfl, rfl, rfl, hE65⟩ := hE65
          have hbh := bh_v (x := x2) (v := v59) (by omega) hE65.2.2
          have hob := hcl v59.toNat (by rw [hbh]; unfold bh; split <;> omega)
          have hb67 := rd_240 hz (i := v59.toNat) (by omega)
          refine r_ia (pc' := 81) rfl rfl sh_240 rfl (by omega) (by omega) (((congrFun (congrFun hq57 _) _).trans (mu_ne (by omega))).trans (hst.2.2.1 _ _ (notS_c (by omega) (notS_c (by omega) notS_n)))) ?_
          refine r_st (pc' := 82) (lv' := [(2, _), (0, _), (1, _)]) rfl rfl rfl rfl ?_
          refine r_go rfl ?_
          have hf68 : z56 225 32 = z 225 32 := ((congrFun (congrFun hq57 _) _).trans (mu_ne (by omega)))
          have hng := ng_b z56
          exact w_lv (sub_c rfl (sub_c rfl (sub_c rfl sub_n))) rfl (ih2 x1 (z0 240 v59.toNat) z56 w ⟨by omega, by omega⟩ ⟨by omega, by omega⟩ ⟨by omega, by omega⟩ hs58 (by first | omega | assumption | (simp only [hf68]; assumption)) (by first | exact ⟨0, MI_0 (fun i hi => as2.1 i hi) (by omega) (by omega) (by have q9 := as2.2; omega) (by omega)⟩ | exact ⟨kk + 1, MI_s hmi (by omega) (fun i hi => by rw [hq7, as5]; by_cases c : i = x2.toNat; (subst c; rw [if_pos rfl]; exact mu_eq); (rw [if_neg c, mu_ne (by omega)])) (by rw [hbh]) (by omega) (by omega) rfl⟩) (by first | exact as2.2 | omega) (by first | omega | assumption | (simp only [hf68]; assumption)) (by first | exact as4 | exact (as2.1 _ (by omega)).symm.trans (by omega)) (by omega))
  refine w_m rfl rfl ?_
  refine r_ld (pc' := 1) rfl rfl rfl rfl ?_
  refine r_c0 (pc' := 2) rfl rfl ?_
  refine r_pi (pc' := 5) rfl rfl sh_225 rfl rfl hst (inS_0 (by omega) (by omega) (by omega) (by omega)) (wr_225_32 ⟨by omega, by omega⟩) (fun z69 hq70 hs71 => ?_)
  refine r_c0 (pc' := 6) rfl rfl ?_
  refine r_st (pc' := 7) (lv' := [(1, _), (0, _)]) rfl rfl rfl rfl ?_
  have hf72 : z69 225 32 = 0 := ((congrFun (congrFun hq70 _) _).trans mu_eq)
  exact w_lv (sub_c rfl (sub_c rfl sub_n)) rfl ((key ((100000 + (36 - 0) : Int).toNat + 1)).1 0 z69 w0 ⟨by omega, by omega⟩ hs71 (by first | omega | assumption | (simp only [hf72]; assumption)) (by first | (intro i hi; exfalso; omega) | (intro i hi; rw [hq3]; by_cases c : i = x1.toNat; (subst c; exact mu_eq); (rw [mu_ne (by omega)]; exact as2 i (by omega)))) (by omega))
/-- LoopGroundModel nowAll -/
abbrev S_239v  : mS := []
abbrev E_239v  (z0 w0 : mZ) (x y tx it mt tt ct : Option Nat) : Int → mZ → mZ → mP → Prop := fun v z w p => p = (pq x y tx it mt tt ct) ∧ z0 = z ∧ w0 = w ∧ 0 ≤ v ∧ v ≤ 1800000000000000 ∧ (v = sm (tr (rE z0) (w0 270)) 18)
theorem m_239v {d : Nat} {z0 w0 : mZ} {x y tx it mt tt ct : Option Nat}  (hz : rz z0) (hw : rw_ w0) : wc (d + 3) 239 [.ref 225] (mk z0 w0 (pq x y tx it mt tt ct)) (poL S_239v z0 w0 (E_239v  z0 w0 x y tx it mt tt ct)) := by
  have hst : st_ S_239v z0 w0 z0 w0 := st_rf hz hw
  refine w_m rfl rfl ?_
  refine r_ld (pc' := 1) rfl rfl rfl rfl ?_
  refine r_c0 (pc' := 2) rfl rfl ?_
  refine r_cVL (pc' := 5) rfl rfl rfl rfl rfl sh_225 (m_181n (d := d) ((-1)) hst.1 hst.2.1 ⟨by omega, by omega⟩) (fun v9 z10 w11 p12 h13 hs14 hE15 => ?_)
  obtain ⟨rfl, rfl, rfl, hE15⟩ := hE15
  have hsn := hE15.2.2
  exact r_rl rfl (po_L hst ⟨by omega, by omega⟩ ⟨rfl, rfl, rfl, by omega, by omega, (by exact hsn)⟩)
/-- LoopGroundModel act -/
abbrev S_241x  : mS := [(225, 225, 73, 73), (271, 271, 0, 1097), (225, 225, 74, 74), (270, 270, 0, 17)]
abbrev E_241x  (z0 w0 : mZ) (x y tx it mt tt ct : Option Nat) : Int → mZ → mZ → mP → Prop := fun v z w p => p = (pq x y tx it mt tt ct) ∧ 0 ≤ v ∧ v ≤ 1800000000000000 ∧ (RV z w ∧ v = sm (tr (rE z0) (w0 257)) 18)
theorem m_241x {d : Nat} {z0 w0 : mZ} {x y tx it mt tt ct : Option Nat}  (hz : rz z0) (hw : rw_ w0) (hrv : RV z0 w0) (hg : NBr w0 257) (hgf : FTw z0 (w0 257)) : wc (d + 4) 241 [.ref 225] (mk z0 w0 (pq x y tx it mt tt ct)) (poL S_241x z0 w0 (E_241x  z0 w0 x y tx it mt tt ct)) := by
  have hst : st_ S_241x z0 w0 z0 w0 := st_rf hz hw
  have h73 := rd_225_73 hz
  have h74 := rd_225_74 hz
  have hsum := hrv.2.2.1.1
  have h18 := rE18 hz
  have key : ∀ N : Nat, (∀ (x1 : Int) (z w : mZ), 0 ≤ x1 ∧ x1 ≤ 18 → st_ S_241x z0 w0 z w → z 225 74 = z0 225 74 → (z 225 73 ≤ 59) → (∀ j : Nat, (j : Int) < z 225 73 → FTw z0 (fun e => w 271 (18 * j + e))) → (∀ e : Nat, (e : Int) < x1 → w 271 (18 * (z 225 73).toNat + e) = w0 270 e ∧ w 270 e = w0 257 e) → (∀ e : Nat, x1 ≤ e → w 270 e = w0 270 e) → 46 * (18 - x1) + 37 < (N : Int) → wp_ (d + 3) 241 2 (some .long) (15, [(0, .ref 225), (1, .int (Int32.ofInt x1))], [], mk z w (pq x y tx it mt tt ct)) (poL S_241x z0 w0 (E_241x  z0 w0 x y tx it mt tt ct))) := by
    intro N
    induction N with
    | zero =>
      intro x1 z w
      intros; exfalso; omega
    | succ N ih =>
      have ih0 := ih; clear ih
      intro x1 z w  hx1 hst un_z_225_74 as1 as2 as3 as4 hM
      have h73z := rd_225_73 hst.1
      refine r_ld (pc' := 16) rfl rfl rfl rfl ?_
      refine r_cb (pc' := 18) rfl (by decide) rfl ?_
      refine r_ige (pc' := 21) rfl rfl ⟨by omega, by omega⟩ ⟨by decide, by decide⟩ (fun hc38 => ?_) (fun hc38 => ?_)
      · skip
        refine r_ld (pc' := 60) rfl rfl rfl rfl ?_
        refine r_al (pc' := 61) rfl rfl rfl rfl ?_
        have hb39 := rd_225_73 hst.1
        refine r_gi (pc' := 64) rfl rfl sh_225 rfl rfl ?_
        refine r_c0 (pc' := 65) rfl rfl ?_
        refine r_add (pc' := 66) rfl rfl ?_
        refine r_pi (pc' := 69) rfl rfl sh_225 rfl rfl hst (inS_0 (by omega) (by omega) (by omega) (by omega)) (wr_225_73 ⟨by omega, by omega⟩) (fun z40 hq41 hs42 => ?_)
        refine r_ld (pc' := 70) rfl rfl rfl rfl ?_
        refine r_c0 (pc' := 71) rfl rfl ?_
        refine r_pi (pc' := 74) rfl rfl sh_225 rfl rfl hs42 (inS_s (inS_s (inS_0 (by omega) (by omega) (by omega) (by omega)))) (wr_225_74 ⟨by omega, by omega⟩) (fun z43 hq44 hs45 => ?_)
        refine r_ld (pc' := 75) rfl rfl rfl rfl ?_
        refine r_cVL (pc' := 78) rfl rfl rfl rfl rfl sh_225 (m_239v (d := d)  hs45.1 hs45.2.1 ) (fun v46 z47 w48 p49 h50 hs51 hE52 => ?_)
        obtain ⟨rfl, rfl, rfl, hE52⟩ := hE52
        have hna := hE52.2.2
        have hf54 : z43 225 73 = (z 225 73) + 1 := (((congrFun (congrFun hq44 _) _).trans (mu_ne (by omega))).trans ((congrFun (congrFun hq41 _) _).trans mu_eq))
        have hf55 : z43 225 74 = 0 := ((congrFun (congrFun hq44 _) _).trans mu_eq)
        exact r_rl rfl (po_L hs45 ⟨by omega, by omega⟩ ⟨rfl, by omega, by omega, (by refine ⟨RV_at hz (fun i h1 h2 => hs45.2.2.1 _ _ (notS_c (by omega) (notS_c (by omega) (notS_c (by omega) (notS_c (by omega) (notS_n)))))) (fun a h1 h2 h3 => funext fun i => hs45.2.2.1 _ _ (notS_c (by omega) (notS_c (by omega) (notS_c (by omega) (notS_c (by omega) (notS_n)))))) (fun a h1 h2 => funext fun i => hs45.2.2.1 _ _ (notS_c (by omega) (notS_c (by omega) (notS_c (by omega) (notS_c (by omega) (notS_n)))))) (funext fun i => hs45.2.2.1 _ _ (notS_c (by omega) (notS_c (by omega) (notS_c (by omega) (notS_c (by omega) (notS_n)))))) (funext fun i => hs45.2.2.2 _ _ (notS_c (by omega) (notS_c (by omega) (notS_c (by omega) (notS_c (by omega) (notS_n)))))) (k := (z 225 73).toNat) (by omega) (by omega) (by omega) (fun j hj => FTw_c (z := z0) (z' := z0) (n := fun e => w 271 (18 * j + e)) rfl rfl h18 (fun e he => rfl) (as2 j (by omega))) (fun e he => as3 e (by omega)) hgf hrv, ?_⟩; rw [hna]; exact sm_c 18 (fun j hj => tr_c (by show 3 * z43 225 26 / 2 = 3 * z0 225 26 / 2; rw [show z43 225 26 = z0 225 26 from (((congrFun (congrFun hq44 _) _).trans (mu_ne (by omega))).trans (((congrFun (congrFun hq41 _) _).trans (mu_ne (by omega))).trans (hst.2.2.1 _ _ (notS_c (by omega) (notS_c (by omega) (notS_c (by omega) (notS_c (by omega) notS_n)))))))]) (as3 j (by omega)).2))⟩)
      · skip
        have hgx := hg x1.toNat (by omega)
        refine r_ld (pc' := 22) rfl rfl rfl rfl ?_
        refine r_gr (b := 271) (pc' := 25) rfl rfl sh_225 rfl pp_225_72 ?_
        refine r_cb (pc' := 27) rfl (by decide) rfl ?_
        refine r_ld (pc' := 28) rfl rfl rfl rfl ?_
        have hb56 := rd_225_73 hst.1
        refine r_gi (pc' := 31) rfl rfl sh_225 rfl rfl ?_
        refine r_mul (pc' := 32) rfl rfl ?_
        refine r_ld (pc' := 33) rfl rfl rfl rfl ?_
        refine r_add (pc' := 34) rfl rfl ?_
        refine r_ld (pc' := 35) rfl rfl rfl rfl ?_
        refine r_gr (b := 270) (pc' := 38) rfl rfl sh_225 rfl pp_225_71 ?_
        refine r_ld (pc' := 39) rfl rfl rfl rfl ?_
        have hb57 := rd_270 hst.2.1 (i := x1.toNat) (by omega)
        refine r_la (pc' := 40) rfl rfl sh_270 rfl (by omega) (by omega) rfl ?_
        refine r_ls (pc' := 41) rfl rfl sh_271 rfl (by omega) (by omega) hst (inS_s (inS_0 (by omega) (by omega) (by omega) (by omega))) (wr_271 ⟨by omega, by omega⟩) (fun w58 hq59 hs60 => ?_)
        have hqa := hq59
        refine r_ld (pc' := 42) rfl rfl rfl rfl ?_
        refine r_gr (b := 270) (pc' := 45) rfl rfl sh_225 rfl pp_225_71 ?_
        refine r_ld (pc' := 46) rfl rfl rfl rfl ?_
        refine r_ld (pc' := 47) rfl rfl rfl rfl ?_
        refine r_gr (b := 257) (pc' := 50) rfl rfl sh_225 rfl pp_225_55 ?_
        refine r_ld (pc' := 51) rfl rfl rfl rfl ?_
        have hb61 := rd_257 hw (i := x1.toNat) (by omega)
        refine r_la (pc' := 52) rfl rfl sh_257 rfl (by omega) (by omega) (((congrFun (congrFun hq59 _) _).trans (mu_ne (by omega))).trans (hst.2.2.2 _ _ (notS_c (by omega) (notS_c (by omega) (notS_c (by omega) (notS_c (by omega) notS_n)))))) ?_
        refine r_ls (pc' := 53) rfl rfl sh_270 rfl (by omega) (by omega) hs60 (inS_s (inS_s (inS_s (inS_0 (by omega) (by omega) (by omega) (by omega))))) (wr_270 ⟨by omega, by omega⟩) (fun w62 hq63 hs64 => ?_)
        have hqb := hq63
        have hl2 : ∀ j : Nat, (j : Int) < z 225 73 → FTw z0 (fun e => w62 271 (18 * j + e)) := fun j hj => FTw_c (z := z0) (z' := z0) (n := fun e => w 271 (18 * j + e)) rfl rfl h18 (fun e he => by show w62 271 _ = w 271 _; rw [hqb, mu_ne (by omega), hqa, mu_ne (by omega)]) (as2 j hj)
        have hl3 : ∀ e : Nat, (e : Int) < x1 + 1 → w62 271 (18 * (z 225 73).toNat + e) = w0 270 e ∧ w62 270 e = w0 257 e := by
          intro e he
          by_cases c : e = x1.toNat
          · subst c
            exact ⟨by rw [hqb, mu_ne (by omega), hqa, mu_eqi (by omega)]; exact as4 _ (by omega), by rw [hqb, mu_eq]⟩
          · rw [hqb, mu_ne (by omega), mu_ne (by omega), hqa, mu_ne (by omega), mu_ne (by omega)]; exact as3 e (by omega)
        have hl4 : ∀ e : Nat, x1 + 1 ≤ e → w62 270 e = w0 270 e := by
          intro e he
          rw [hqb, mu_ne (by omega), hqa, mu_ne (by omega)]; exact as4 e (by omega)
        refine r_inc (pc' := 56) (lv' := [(0, _)]) rfl rfl rfl rfl rfl ?_
        refine r_go rfl ?_
        have hb65 := rd_225_74 hz
        exact w_lv (sub_c rfl (sub_c rfl sub_n)) rfl (ih0 (x1 + 1) z w62 ⟨by omega, by omega⟩ hs64 (un_z_225_74) (by omega) (by first | exact hl2 | exact hi2 | exact fun j hj => hrv.2.2.1.2 j (by omega)) (by first | exact hl3 | (intro e he; exfalso; omega)) (by first | exact hl4 | exact fun e _ => hi4 e | exact fun e _ => rfl) (by omega))
  refine w_m rfl rfl ?_
  refine r_ld (pc' := 1) rfl rfl rfl rfl ?_
  have hb66 := rd_225_73 hz
  refine r_gi (pc' := 4) rfl rfl sh_225 rfl rfl ?_
  refine r_cb (pc' := 6) rfl (by decide) rfl ?_
  refine r_ine (pc' := 9) rfl rfl ⟨by omega, by omega⟩ ⟨by decide, by decide⟩ (fun hc67 => ?_) (fun hc67 => ?_)
  · skip
    refine r_c0 (pc' := 14) rfl rfl ?_
    refine r_st (pc' := 15) (lv' := [(1, _), (0, _)]) rfl rfl rfl rfl ?_
    have hb68 := rd_225_74 hz
    exact w_lv (sub_c rfl (sub_c rfl sub_n)) rfl ((key ((46 * (18 - 0) + 37 : Int).toNat + 1)) 0 z0 w0 ⟨by omega, by omega⟩ hst (rfl) (by omega) (by first | exact hl2 | exact hi2 | exact fun j hj => hrv.2.2.1.2 j (by omega)) (by first | exact hl3 | (intro e he; exfalso; omega)) (by first | exact hl4 | exact fun e _ => hi4 e | exact fun e _ => rfl) (by omega))
  · skip
    refine r_ld (pc' := 10) rfl rfl rfl rfl ?_
    refine r_cVV (pc' := 13) rfl rfl rfl rfl rfl sh_225 (m_240v (d := d + 2)  hst.1 hst.2.1 (by first | omega | assumption)) (fun z70 w71 p72 hs74 hE75 => ?_)
    have hs76 := st_tr hst hs74 (sub_B rfl)
    obtain ⟨rfl, hE75⟩ := hE75
    have hso := hE75
    have hi1 : z70 225 73 ≤ 59 := by omega
    have hi2 : ∀ j : Nat, (j : Int) < z70 225 73 → FTw z0 (fun e => w71 271 (18 * j + e)) := AC_s hz hi1 hrv (by omega) hso.2
    have hi4 : ∀ e : Nat, w71 270 e = w0 270 e := fun e => hs74.2.2.2 _ _ (notS_c (by omega) (notS_c (by omega) notS_n))
    refine r_c0 (pc' := 14) rfl rfl ?_
    refine r_st (pc' := 15) (lv' := [(1, _), (0, _)]) rfl rfl rfl rfl ?_
    have hb77 := rd_225_73 hs76.1
    have hb78 := rd_225_74 hz
    exact w_lv (sub_c rfl (sub_c rfl sub_n)) rfl ((key ((46 * (18 - 0) + 37 : Int).toNat + 1)) 0 z70 w71 ⟨by omega, by omega⟩ hs76 ((hs74.2.2.1 _ _ (notS_c (by omega) (notS_c (by omega) notS_n)))) (by omega) (by first | exact hl2 | exact hi2 | exact fun j hj => hrv.2.2.1.2 j (by omega)) (by first | exact hl3 | (intro e he; exfalso; omega)) (by first | exact hl4 | exact fun e _ => hi4 e | exact fun e _ => rfl) (by omega))
/-- LoopGroundModel lay -/
abbrev S_242x  : mS := [(225, 225, 58, 58), (225, 225, 59, 59), (257, 257, 0, 17), (225, 225, 73, 73), (271, 271, 0, 1097), (225, 225, 74, 74), (270, 270, 0, 17)]
abbrev E_242x (a1 : Int) (z0 w0 : mZ) (x y tx it mt tt ct : Option Nat) : Int → mZ → mZ → mP → Prop := fun v z w p => p = (pq x y tx it mt tt ct) ∧ (-1) ≤ v ∧ v ≤ 1800000000000000 ∧ (RV z w ∧ (0 ≤ a1 → a1 < z0 225 27 → v = sm (tr (rE z0) (lnR z0 a1.toNat)) 18) ∧ ((a1 < 0 ∨ z0 225 27 ≤ a1) → v = -1))
theorem m_242x {d : Nat} {z0 w0 : mZ} {x y tx it mt tt ct : Option Nat} (a1 : Int) (hz : rz z0) (hw : rw_ w0) (ha1 : (-2147483648) ≤ a1 ∧ a1 ≤ 2147483647) (hrv : RV z0 w0) : wc (d + 5) 242 [.ref 225, .int (Int32.ofInt a1)] (mk z0 w0 (pq x y tx it mt tt ct)) (poL S_242x z0 w0 (E_242x a1 z0 w0 x y tx it mt tt ct)) := by
  have hst : st_ S_242x z0 w0 z0 w0 := st_rf hz hw
  have hz27 := rd_225_27 hz
  have h27 := rd_225_27 hz
  refine w_m rfl rfl ?_
  refine r_ld (pc' := 1) rfl rfl rfl rfl ?_
  refine r_ld (pc' := 2) rfl rfl rfl rfl ?_
  have hb28 := rd_225_27 hz
  refine r_cVI (pc' := 5) rfl rfl rfl rfl rfl sh_225 (m_173 (d := d + 3) a1 hst.1 hst.2.1 ⟨by omega, by omega⟩) (fun v29 z30 w31 p32 h33 hs34 hE35 => ?_)
  obtain ⟨rfl, rfl, rfl, hE35⟩ := hE35
  refine r_zne (pc' := 8) rfl rfl ⟨by omega, by omega⟩ (fun hc37 => ?_) (fun hc37 => ?_)
  · skip
    refine r_ld (pc' := 13) rfl rfl rfl rfl ?_
    refine r_ld (pc' := 14) rfl rfl rfl rfl ?_
    refine r_cVV (pc' := 17) rfl rfl rfl rfl rfl sh_225 (m_212t (d := d + 2) a1 hst.1 hst.2.1 ⟨by omega, by omega⟩) (fun z39 w40 p41 hs43 hE44 => ?_)
    have hs45 := st_tr hst hs43 (sub_B rfl)
    obtain ⟨rfl, hE44⟩ := hE44
    have hbg := hE44
    have he26 : rE z39 = rE z0 := by show 3 * z39 225 26 / 2 = 3 * z0 225 26 / 2; rw [show z39 225 26 = z0 225 26 from (hs43.2.2.1 _ _ (notS_c (by omega) (notS_c (by omega) (notS_c (by omega) notS_n))))]
    refine r_ld (pc' := 18) rfl rfl rfl rfl ?_
    refine r_cVL (pc' := 21) rfl rfl rfl rfl rfl sh_225 (m_241x (d := d)  hs45.1 hs45.2.1 (by exact RV_c hz (fun i h1 h2 => (hs43.2.2.1 _ _ (notS_c (by omega) (notS_c (by omega) (notS_c (by omega) notS_n))))) (fun a h1 h2 h3 => funext fun i => (hs43.2.2.1 _ _ (notS_c (by omega) (notS_c (by omega) (notS_c (by omega) notS_n))))) (fun a h1 h2 => funext fun i => (hs43.2.2.1 _ _ (notS_c (by omega) (notS_c (by omega) (notS_c (by omega) notS_n))))) ((hs43.2.2.1 _ _ (notS_c (by omega) (notS_c (by omega) (notS_c (by omega) notS_n))))) ((hs43.2.2.1 _ _ (notS_c (by omega) (notS_c (by omega) (notS_c (by omega) notS_n))))) (funext fun i => (hs43.2.2.1 _ _ (notS_c (by omega) (notS_c (by omega) (notS_c (by omega) notS_n))))) (fun a h => funext fun i => (hs43.2.2.2 _ _ (notS_c (by omega) (notS_c (by omega) (notS_c (by omega) notS_n))))) hrv) (by exact NB_b (w := w0) (E := rE z0) (f := lnR z0 a1.toNat) (fun j hj => by have := rd_236 hz (i := 18 * a1.toNat + j) (by omega); show 0 ≤ z0 236 _ ∧ z0 236 _ ≤ _; omega) hbg.1) (by exact FTw_b (z := z0) (f := lnR z0 a1.toNat) hz ((hs43.2.2.1 _ _ (notS_c (by omega) (notS_c (by omega) (notS_c (by omega) notS_n))))) (funext fun i => (hs43.2.2.1 _ _ (notS_c (by omega) (notS_c (by omega) (notS_c (by omega) notS_n))))) (hrv.1.2.1 a1.toNat (by omega)).1 hbg.1)) (fun v46 z47 w48 p49 h50 hs51 hE52 => ?_)
    have hs53 := st_tr hs45 hs51 (sub_B rfl)
    obtain ⟨rfl, hE52⟩ := hE52
    have hac := hE52.2.2
    exact r_rl rfl (po_L hs53 ⟨by omega, by omega⟩ ⟨rfl, by omega, by omega, (by refine ⟨hac.1, fun _ _ => ?_, fun q => by exfalso; omega⟩; rw [hac.2]; exact sm_c 18 (fun j hj => (tr_c he26 (hbg.1 j hj)).trans (congrFun tr_tr j)))⟩)
  · skip
    refine r_al (pc' := 11) rfl rfl rfl rfl ?_
    exact r_rl rfl (po_L hst ⟨by decide, by decide⟩ ⟨rfl, by omega, by omega, (by exact ⟨hrv, fun q1 q2 => by exfalso; omega, fun _ => rfl⟩)⟩)
