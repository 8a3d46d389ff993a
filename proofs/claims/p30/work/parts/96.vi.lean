section
/-! methods, printed by wip/tools/vcg.py -/
/-- LoopGroundModel layOver -/
abbrev S_176y  : mS := [(241, 241, 0, 17), (240, 240, 0, 35)]
abbrev E_176y  (z0 w0 : mZ) (x y tx it mt tt ct : Option Nat) : mZ → mZ → mP → Prop := fun z w p => p = (pq x y tx it mt tt ct) ∧ (RW z ∧ FLr z)
theorem m_176y {d : Nat} {z0 w0 : mZ} {x y tx it mt tt ct : Option Nat}  (hz : rz z0) (hw : rw_ w0) (hly : LY (z0 225 26) (rE z0) (z0 235)) : wc (d + 1) 176 [.ref 225] (mk z0 w0 (pq x y tx it mt tt ct)) (poV S_176y z0 w0 (E_176y  z0 w0 x y tx it mt tt ct)) := by
  have hst : st_ S_176y z0 w0 z0 w0 := st_rf hz hw
  have hz19 := rd_225_26 hz
  have hm26 := rd_225_26 hz
  have hrE : rE z0 = 3 * z0 225 26 / 2 := rfl
  have key : ∀ N : Nat, (∀ (x1 : Int) (z w : mZ), 0 ≤ x1 ∧ x1 ≤ 18 → st_ S_176y z0 w0 z w → (∀ e : Nat, (e : Int) < x1 → z 241 e = -1) → 55 * (18 - x1) + 2142 < (N : Int) → wp_ (d) 176 3 none (2, [(0, .ref 225), (1, .int (Int32.ofInt x1))], [], mk z w (pq x y tx it mt tt ct)) (poV S_176y z0 w0 (E_176y  z0 w0 x y tx it mt tt ct))) ∧ (∀ (x1 : Int) (z w : mZ), 0 ≤ x1 ∧ x1 ≤ 36 → st_ S_176y z0 w0 z w → (LO (rE z0) (z0 235) (z 240) (z 241) x1) → (x1 ≤ 3 * z0 225 26) → 55 * (36 - x1) + 40 < (N : Int) → wp_ (d) 176 3 none (23, [(0, .ref 225), (1, .int (Int32.ofInt x1))], [], mk z w (pq x y tx it mt tt ct)) (poV S_176y z0 w0 (E_176y  z0 w0 x y tx it mt tt ct))) := by
    intro N
    induction N with
    | zero =>
      refine ⟨?_, ?_⟩
      · intro x1 z w
        intros; exfalso; omega
      · intro x1 z w
        intros; exfalso; omega
    | succ N ih =>
      obtain ⟨ih0, ih1⟩ := ih
      refine ⟨?_, ?_⟩
      · intro x1 z w  hx1 hst as1 hM
        refine r_ld (pc' := 3) rfl rfl rfl rfl ?_
        refine r_cb (pc' := 5) rfl (by decide) rfl ?_
        refine r_ige (pc' := 8) rfl rfl ⟨by omega, by omega⟩ ⟨by decide, by decide⟩ (fun hc20 => ?_) (fun hc20 => ?_)
        · skip
          refine r_c0 (pc' := 22) rfl rfl ?_
          refine r_st (pc' := 23) (lv' := [(1, _), (0, _)]) rfl rfl rfl rfl ?_
          exact w_lv (sub_c rfl (sub_c rfl sub_n)) rfl (ih1 0 z w ⟨by omega, by omega⟩ hst (by first | exact LO_0 (fun e he => as1 e (by omega)) | (rw [show z 240 = z 240 from funext fun i => rfl]; exact LO_a as1 (by omega) (e0 := (z0 235 x1.toNat).toNat) (by omega) (by omega) (fun j hj => by rw [hqa]; exact mu_ne (by omega)) (by rw [hqa]; exact mu_eq)) | (rw [show z 241 = z 241 from funext fun i => rfl]; exact LO_b hly as1 (by omega) (by omega) (e0 := (z0 235 x1.toNat).toNat) (by omega) (by omega) (fun j h1 h2 => by rw [hqc, mu_ne (by omega), hqb, mu_ne (by omega)]) (by rw [hqc, mu_ne (by omega), hqb, mu_eq]) (by rw [hqc]; exact mu_eq))) (by first | omega | assumption) (by omega))
        · skip
          refine r_ld (pc' := 9) rfl rfl rfl rfl ?_
          refine r_gr (b := 241) (pc' := 12) rfl rfl sh_225 rfl pp_225_30 ?_
          refine r_ld (pc' := 13) rfl rfl rfl rfl ?_
          refine r_c0 (pc' := 14) rfl rfl ?_
          refine r_is (pc' := 15) rfl rfl sh_241 rfl (by omega) (by omega) hst (inS_0 (by omega) (by omega) (by omega) (by omega)) (wr_241 ⟨by omega, by omega⟩) (fun z21 hq22 hs23 => ?_)
          have hqm := hq22
          refine r_inc (pc' := 18) (lv' := [(0, _)]) rfl rfl rfl rfl rfl ?_
          refine r_go rfl ?_
          exact w_lv (sub_c rfl (sub_c rfl sub_n)) rfl (ih0 (x1 + 1) z21 w ⟨by omega, by omega⟩ hs23 (by first | (intro e he; exfalso; omega) | (intro e he; rw [hqm]; by_cases c : e = x1.toNat; (subst c; exact mu_eq); (rw [mu_ne (by omega)]; exact as1 e (by omega)))) (by omega))
      · intro x1 z w  hx1 hst as1 as2 hM
        refine r_ld (pc' := 24) rfl rfl rfl rfl ?_
        refine r_c0 (pc' := 25) rfl rfl ?_
        refine r_ld (pc' := 26) rfl rfl rfl rfl ?_
        have hb24 := rd_225_26 hz
        refine r_gi (pc' := 29) rfl rfl sh_225 rfl (hst.2.2.1 _ _ (notS_c (by omega) (notS_c (by omega) notS_n))) ?_
        refine r_mul (pc' := 30) rfl rfl ?_
        refine r_ige (pc' := 33) rfl rfl ⟨by omega, by omega⟩ ⟨by omega, by omega⟩ (fun hc25 => ?_) (fun hc25 => ?_)
        · skip
          exact r_ret rfl (po_V hst ⟨rfl, (by refine ⟨?_, ?_⟩; (have k := LO_end hly as1 (by omega); unfold RW rE; rw [show z 225 26 = z0 225 26 from hst.2.2.1 _ _ (notS_c (by omega) (notS_c (by omega) (notS_n))), show z 235 = z0 235 from funext fun i => hst.2.2.1 _ _ (notS_c (by omega) (notS_c (by omega) (notS_n)))]; exact k); (intro e he; rw [show rE z = rE z0 from by show 3 * z 225 26 / 2 = 3 * z0 225 26 / 2; rw [show z 225 26 = z0 225 26 from hst.2.2.1 _ _ (notS_c (by omega) (notS_c (by omega) (notS_n)))]] at he; exact LO_fl hly as1 (by omega) e he))⟩)
        · skip
          refine r_ld (pc' := 34) rfl rfl rfl rfl ?_
          refine r_gr (b := 235) (pc' := 37) rfl rfl sh_225 rfl pp_225_18 ?_
          refine r_ld (pc' := 38) rfl rfl rfl rfl ?_
          have hb26 := rd_235 hz (i := x1.toNat) (by omega)
          refine r_ia (pc' := 39) rfl rfl sh_235 rfl (by omega) (by omega) (hst.2.2.1 _ _ (notS_c (by omega) (notS_c (by omega) notS_n))) ?_
          refine r_st (pc' := 40) (lv' := [(2, _), (0, _), (1, _)]) rfl rfl rfl rfl ?_
          have hE0 := hly.2.2.2.1 x1.toNat (by omega)
          refine r_ld (pc' := 41) rfl rfl rfl rfl ?_
          refine r_gr (b := 241) (pc' := 44) rfl rfl sh_225 rfl pp_225_30 ?_
          refine r_ld (pc' := 45) rfl rfl rfl rfl ?_
          have hb27 := rd_241 hst.1 (i := (z0 235 x1.toNat).toNat) (by omega)
          refine r_ia (pc' := 46) rfl rfl sh_241 rfl (by omega) (by omega) rfl ?_
          refine r_zge (pc' := 49) rfl rfl ⟨by omega, by omega⟩ (fun hc28 => ?_) (fun hc28 => ?_)
          · skip
            refine r_ld (pc' := 60) rfl rfl rfl rfl ?_
            have hlt := LO_lt as1 (e := (z0 235 x1.toNat).toNat) (by omega) (by omega)
            refine r_gr (b := 240) (pc' := 63) rfl rfl sh_225 rfl pp_225_29 ?_
            refine r_ld (pc' := 64) rfl rfl rfl rfl ?_
            refine r_ld (pc' := 65) rfl rfl rfl rfl ?_
            refine r_gr (b := 241) (pc' := 68) rfl rfl sh_225 rfl pp_225_30 ?_
            refine r_ld (pc' := 69) rfl rfl rfl rfl ?_
            refine r_ia (pc' := 70) rfl rfl sh_241 rfl (by omega) (by omega) rfl ?_
            refine r_is (pc' := 71) rfl rfl sh_240 rfl (by omega) (by omega) hst (inS_s (inS_0 (by omega) (by omega) (by omega) (by omega))) (wr_240 ⟨by omega, by omega⟩) (fun z29 hq30 hs31 => ?_)
            have hqb := hq30
            refine r_ld (pc' := 72) rfl rfl rfl rfl ?_
            refine r_gr (b := 240) (pc' := 75) rfl rfl sh_225 rfl pp_225_29 ?_
            refine r_ld (pc' := 76) rfl rfl rfl rfl ?_
            refine r_gr (b := 241) (pc' := 79) rfl rfl sh_225 rfl pp_225_30 ?_
            refine r_ld (pc' := 80) rfl rfl rfl rfl ?_
            refine r_ia (pc' := 81) rfl rfl sh_241 rfl (by omega) (by omega) ((congrFun (congrFun hq30 _) _).trans (mu_ne (by omega))) ?_
            refine r_ld (pc' := 82) rfl rfl rfl rfl ?_
            refine r_is (pc' := 83) rfl rfl sh_240 rfl (by omega) (by omega) hs31 (inS_s (inS_0 (by omega) (by omega) (by omega) (by omega))) (wr_240 ⟨by omega, by omega⟩) (fun z32 hq33 hs34 => ?_)
            have hqc := hq33
            refine r_inc (pc' := 86) (lv' := [(2, _), (0, _)]) rfl rfl rfl rfl rfl ?_
            refine r_go rfl ?_
            have hF35 : z32 241 = z 241 := (((congrFun hq33 _).trans (mu_fn (by omega))).trans ((congrFun hq30 _).trans (mu_fn (by omega))))
            exact w_lv (sub_c rfl (sub_c rfl sub_n)) rfl (ih1 (x1 + 1) z32 w ⟨by omega, by omega⟩ hs34 (by first | exact LO_0 (fun e he => as1 e (by omega)) | (rw [show z32 240 = z 240 from funext fun i => (((congrFun (congrFun hq33 _) _).trans (mu_ne (by omega))).trans ((congrFun (congrFun hq30 _) _).trans (mu_ne (by omega))))]; exact LO_a as1 (by omega) (e0 := (z0 235 x1.toNat).toNat) (by omega) (by omega) (fun j hj => by rw [hqa]; exact mu_ne (by omega)) (by rw [hqa]; exact mu_eq)) | (rw [show z32 241 = z 241 from funext fun i => (((congrFun (congrFun hq33 _) _).trans (mu_ne (by omega))).trans ((congrFun (congrFun hq30 _) _).trans (mu_ne (by omega))))]; exact LO_b hly as1 (by omega) (by omega) (e0 := (z0 235 x1.toNat).toNat) (by omega) (by omega) (fun j h1 h2 => by rw [hqc, mu_ne (by omega), hqb, mu_ne (by omega)]) (by rw [hqc, mu_ne (by omega), hqb, mu_eq]) (by rw [hqc]; exact mu_eq))) (by first | omega | assumption | (simp only [hF35]; assumption)) (by omega))
          · skip
            refine r_ld (pc' := 50) rfl rfl rfl rfl ?_
            refine r_gr (b := 241) (pc' := 53) rfl rfl sh_225 rfl pp_225_30 ?_
            refine r_ld (pc' := 54) rfl rfl rfl rfl ?_
            refine r_ld (pc' := 55) rfl rfl rfl rfl ?_
            refine r_is (pc' := 56) rfl rfl sh_241 rfl (by omega) (by omega) hst (inS_0 (by omega) (by omega) (by omega) (by omega)) (wr_241 ⟨by omega, by omega⟩) (fun z36 hq37 hs38 => ?_)
            have hqa := hq37
            refine r_go rfl ?_
            refine r_inc (pc' := 86) (lv' := [(2, _), (0, _)]) rfl rfl rfl rfl rfl ?_
            refine r_go rfl ?_
            have hF39 : z36 240 = z 240 := ((congrFun hq37 _).trans (mu_fn (by omega)))
            exact w_lv (sub_c rfl (sub_c rfl sub_n)) rfl (ih1 (x1 + 1) z36 w ⟨by omega, by omega⟩ hs38 (by first | exact LO_0 (fun e he => as1 e (by omega)) | (rw [show z36 240 = z 240 from funext fun i => ((congrFun (congrFun hq37 _) _).trans (mu_ne (by omega)))]; exact LO_a as1 (by omega) (e0 := (z0 235 x1.toNat).toNat) (by omega) (by omega) (fun j hj => by rw [hqa]; exact mu_ne (by omega)) (by rw [hqa]; exact mu_eq)) | (rw [show z36 241 = z 241 from funext fun i => ((congrFun (congrFun hq37 _) _).trans (mu_ne (by omega)))]; exact LO_b hly as1 (by omega) (by omega) (e0 := (z0 235 x1.toNat).toNat) (by omega) (by omega) (fun j h1 h2 => by rw [hqc, mu_ne (by omega), hqb, mu_ne (by omega)]) (by rw [hqc, mu_ne (by omega), hqb, mu_eq]) (by rw [hqc]; exact mu_eq))) (by first | omega | assumption | (simp only [hF39]; assumption)) (by omega))
  refine w_m rfl rfl ?_
  refine r_c0 (pc' := 1) rfl rfl ?_
  refine r_st (pc' := 2) (lv' := [(1, _), (0, _)]) rfl rfl rfl rfl ?_
  exact w_lv (sub_c rfl (sub_c rfl sub_n)) rfl ((key ((55 * (18 - 0) + 2142 : Int).toNat + 1)).1 0 z0 w0 ⟨by omega, by omega⟩ hst (by first | (intro e he; exfalso; omega) | (intro e he; rw [hqm]; by_cases c : e = x1.toNat; (subst c; exact mu_eq); (rw [mu_ne (by omega)]; exact as1 e (by omega)))) (by omega))
/-- LoopGroundModel turned -/
abbrev S_177b  : mS := []
abbrev E_177b (a0 : Int) (a1 : Int) (z0 w0 : mZ) (x y tx it mt tt ct : Option Nat) : Int → mZ → mZ → mP → Prop := fun v z w p => p = (pq x y tx it mt tt ct) ∧ z0 = z ∧ w0 = w ∧ 0 ≤ v ∧ v ≤ 35 ∧ ((a0 % 3 = 2 → v = a0 - 2) ∧ (a0 % 3 ≠ 2 → v = a0 + 1))
theorem m_177b {d : Nat} {z0 w0 : mZ} {x y tx it mt tt ct : Option Nat} (a0 : Int) (a1 : Int) (hz : rz z0) (hw : rw_ w0) (ha0 : 0 ≤ a0 ∧ a0 ≤ 35) (ha1 : 1 ≤ a1 ∧ a1 ≤ 1) : wc (d + 1) 177 [.int (Int32.ofInt a0), .int (Int32.ofInt a1)] (mk z0 w0 (pq x y tx it mt tt ct)) (poI S_177b z0 w0 (E_177b a0 a1 z0 w0 x y tx it mt tt ct)) := by
  have hst : st_ S_177b z0 w0 z0 w0 := st_rf hz hw
  refine w_m rfl rfl ?_
  refine r_ld (pc' := 1) rfl rfl rfl rfl ?_
  refine r_c0 (pc' := 2) rfl rfl ?_
  refine r_dv (pc' := 3) (v := a0 / 3) rfl rfl ⟨by omega, by omega⟩ ⟨by decide, by decide⟩ (by decide) (tdiv_n (by omega)) ?_
  refine r_c0 (pc' := 4) rfl rfl ?_
  refine r_mul (pc' := 5) rfl rfl ?_
  refine r_ld (pc' := 6) rfl rfl rfl rfl ?_
  refine r_c0 (pc' := 7) rfl rfl ?_
  refine r_rm (pc' := 8) (v := a0 % 3) rfl rfl ⟨by omega, by omega⟩ ⟨by decide, by decide⟩ (by decide) (tmod_n (by omega)) ?_
  refine r_ld (pc' := 9) rfl rfl rfl rfl ?_
  refine r_add (pc' := 10) rfl rfl ?_
  refine r_c0 (pc' := 11) rfl rfl ?_
  refine r_rm (pc' := 12) (v := ((a0 % 3) + a1) % 3) rfl rfl ⟨by omega, by omega⟩ ⟨by decide, by decide⟩ (by decide) (tmod_n (by omega)) ?_
  refine r_add (pc' := 13) rfl rfl ?_
  exact r_ri rfl (po_I hst ⟨by omega, by omega⟩ ⟨rfl, rfl, rfl, by omega, by omega, (by first | omega | assumption)⟩)
/-- LoopGroundModel point -/
abbrev S_179x  : mS := []
abbrev E_179x (a1 : Int) (a2 : Int) (z0 w0 : mZ) (x y tx it mt tt ct : Option Nat) : Int → mZ → mZ → mP → Prop := fun v z w p => p = (pq x y tx it mt tt ct) ∧ z0 = z ∧ w0 = w ∧ (-1) ≤ v ∧ v ≤ 35 ∧ ((0 ≤ a1 → a1 < z0 225 26 → 0 ≤ a2 → a2 ≤ 2 → v = z0 242 (3 * a1 + a2).toNat) ∧ ((a1 < 0 ∨ z0 225 26 ≤ a1 ∨ a2 < 0 ∨ 2 < a2) → v = -1))
theorem m_179x {d : Nat} {z0 w0 : mZ} {x y tx it mt tt ct : Option Nat} (a1 : Int) (a2 : Int) (hz : rz z0) (hw : rw_ w0) (ha1 : (-2147483648) ≤ a1 ∧ a1 ≤ 2147483647) (ha2 : (-2147483648) ≤ a2 ∧ a2 ≤ 2147483647) : wc (d + 1) 179 [.ref 225, .int (Int32.ofInt a1), .int (Int32.ofInt a2)] (mk z0 w0 (pq x y tx it mt tt ct)) (poI S_179x z0 w0 (E_179x a1 a2 z0 w0 x y tx it mt tt ct)) := by
  have hst : st_ S_179x z0 w0 z0 w0 := st_rf hz hw
  have hz7 := rd_225_26 hz
  refine w_m rfl rfl ?_
  refine r_ld (pc' := 1) rfl rfl rfl rfl ?_
  refine r_zlt (pc' := 4) rfl rfl ⟨by omega, by omega⟩ (fun hc8 => ?_) (fun hc8 => ?_)
  · skip
    refine r_c0 (pc' := 22) rfl rfl ?_
    refine r_go rfl ?_
    exact r_ri rfl (po_I hst ⟨by decide, by decide⟩ ⟨rfl, rfl, rfl, by omega, by omega, (by first | exact ⟨fun _ _ _ _ => rfl, fun q => by exfalso; omega⟩ | exact ⟨fun _ _ _ _ => by exfalso; omega, fun _ => rfl⟩)⟩)
  · skip
    refine r_ld (pc' := 5) rfl rfl rfl rfl ?_
    refine r_ld (pc' := 6) rfl rfl rfl rfl ?_
    have hb9 := rd_225_26 hz
    refine r_gi (pc' := 9) rfl rfl sh_225 rfl rfl ?_
    refine r_ige (pc' := 12) rfl rfl ⟨by omega, by omega⟩ ⟨by omega, by omega⟩ (fun hc10 => ?_) (fun hc10 => ?_)
    · skip
      refine r_c0 (pc' := 22) rfl rfl ?_
      refine r_go rfl ?_
      exact r_ri rfl (po_I hst ⟨by decide, by decide⟩ ⟨rfl, rfl, rfl, by omega, by omega, (by first | exact ⟨fun _ _ _ _ => rfl, fun q => by exfalso; omega⟩ | exact ⟨fun _ _ _ _ => by exfalso; omega, fun _ => rfl⟩)⟩)
    · skip
      refine r_ld (pc' := 13) rfl rfl rfl rfl ?_
      refine r_zlt (pc' := 16) rfl rfl ⟨by omega, by omega⟩ (fun hc11 => ?_) (fun hc11 => ?_)
      · skip
        refine r_c0 (pc' := 22) rfl rfl ?_
        refine r_go rfl ?_
        exact r_ri rfl (po_I hst ⟨by decide, by decide⟩ ⟨rfl, rfl, rfl, by omega, by omega, (by first | exact ⟨fun _ _ _ _ => rfl, fun q => by exfalso; omega⟩ | exact ⟨fun _ _ _ _ => by exfalso; omega, fun _ => rfl⟩)⟩)
      · skip
        refine r_ld (pc' := 17) rfl rfl rfl rfl ?_
        refine r_c0 (pc' := 18) rfl rfl ?_
        refine r_ile (pc' := 21) rfl rfl ⟨by omega, by omega⟩ ⟨by decide, by decide⟩ (fun hc12 => ?_) (fun hc12 => ?_)
        · skip
          refine r_ld (pc' := 26) rfl rfl rfl rfl ?_
          refine r_gr (b := 242) (pc' := 29) rfl rfl sh_225 rfl pp_225_31 ?_
          refine r_c0 (pc' := 30) rfl rfl ?_
          refine r_ld (pc' := 31) rfl rfl rfl rfl ?_
          refine r_mul (pc' := 32) rfl rfl ?_
          refine r_ld (pc' := 33) rfl rfl rfl rfl ?_
          refine r_add (pc' := 34) rfl rfl ?_
          have hb13 := rd_242 hz (i := ((3 * a1) + a2).toNat) (by omega)
          refine r_ia (pc' := 35) rfl rfl sh_242 rfl (by omega) (by omega) rfl ?_
          exact r_ri rfl (po_I hst ⟨by omega, by omega⟩ ⟨rfl, rfl, rfl, by omega, by omega, (by first | exact ⟨fun _ _ _ _ => rfl, fun q => by exfalso; omega⟩ | exact ⟨fun _ _ _ _ => by exfalso; omega, fun _ => rfl⟩)⟩)
        · skip
          refine r_c0 (pc' := 22) rfl rfl ?_
          refine r_go rfl ?_
          exact r_ri rfl (po_I hst ⟨by decide, by decide⟩ ⟨rfl, rfl, rfl, by omega, by omega, (by first | exact ⟨fun _ _ _ _ => rfl, fun q => by exfalso; omega⟩ | exact ⟨fun _ _ _ _ => by exfalso; omega, fun _ => rfl⟩)⟩)
/-- LoopGroundModel points -/
abbrev S_178p  : mS := [(225, 225, 32, 32), (242, 242, 0, 35)]
abbrev E_178p  (z0 w0 : mZ) (x y tx it mt tt ct : Option Nat) : mZ → mZ → mP → Prop := fun z w p => p = (pq x y tx it mt tt ct) ∧ (PQ (z0 240) (3 * z0 225 26).toNat (3 * z0 225 26).toNat (z 242) (z 225 32))
theorem m_178p {d : Nat} {z0 w0 : mZ} {x y tx it mt tt ct : Option Nat}  (hz : rz z0) (hw : rw_ w0) (hcl : ∀ s : Nat, (s : Int) < 3 * z0 225 26 → 0 ≤ z0 240 s ∧ z0 240 s < 3 * z0 225 26) : wc (d + 2) 178 [.ref 225] (mk z0 w0 (pq x y tx it mt tt ct)) (poV S_178p z0 w0 (E_178p  z0 w0 x y tx it mt tt ct)) := by
  have hst : st_ S_178p z0 w0 z0 w0 := st_rf hz hw
  have hz32 := rd_225_26 hz
  have h26 := rd_225_26 hz
  have key : ∀ N : Nat, (∀ (x1 : Int) (z w : mZ), 0 ≤ x1 ∧ x1 ≤ 36 → st_ S_178p z0 w0 z w → (z 225 32 = 0) → (∀ i : Nat, (i : Int) < x1 → z 242 i = -1) → 100000 + (36 - x1) < (N : Int) → wp_ (d + 1) 178 3 none (7, [(0, .ref 225), (1, .int (Int32.ofInt x1))], [], mk z w (pq x y tx it mt tt ct)) (poV S_178p z0 w0 (E_178p  z0 w0 x y tx it mt tt ct))) ∧ (∀ (x1 : Int) (z w : mZ), 0 ≤ x1 ∧ x1 ≤ 36 → st_ S_178p z0 w0 z w → (z 225 32 ≤ x1) → (PQ (z0 240) (3 * z0 225 26).toNat x1.toNat (z 242) (z 225 32)) → (x1 ≤ 3 * z0 225 26) → 100 * (36 - x1) + 60 < (N : Int) → wp_ (d + 1) 178 3 none (28, [(0, .ref 225), (1, .int (Int32.ofInt x1))], [], mk z w (pq x y tx it mt tt ct)) (poV S_178p z0 w0 (E_178p  z0 w0 x y tx it mt tt ct))) ∧ (∀ (x1 x2 : Int) (z w : mZ), 0 ≤ x1 ∧ x1 ≤ 35 → 0 ≤ x2 ∧ x2 ≤ 35 → 1 ≤ z0 225 26 ∧ z0 225 26 ≤ 12 → st_ S_178p z0 w0 z w → (z 225 32 ≤ x1) → (∃ k, MI (z0 240) (ptf (z0 240) x1.toNat).2 (3 * z0 225 26).toNat (ptf (z0 240) x1.toNat).1 x1.toNat k (z 242) x2) → (z 225 32 = (ptf (z0 240) x1.toNat).2) → (x1 < 3 * z0 225 26) → ((ptf (z0 240) x1.toNat).1 x1.toNat = -1) → 100 * (36 - x1) + 10 + ng_ z < (N : Int) → wp_ (d + 1) 178 3 none (52, [(0, .ref 225), (1, .int (Int32.ofInt x1)), (2, .int (Int32.ofInt x2))], [], mk z w (pq x y tx it mt tt ct)) (poV S_178p z0 w0 (E_178p  z0 w0 x y tx it mt tt ct))) := by
    intro N
    induction N with
    | zero =>
      refine ⟨?_, ?_, ?_⟩
      · intro x1 z w
        intros; exfalso; omega
      · intro x1 z w
        intros; exfalso; omega
      · intro x1 x2 z w
        have hng := ng_b z
        intros; exfalso; omega
    | succ N ih =>
      obtain ⟨ih0, ih1, ih2⟩ := ih
      refine ⟨?_, ?_, ?_⟩
      · intro x1 z w  hx1 hst as1 as2 hM
        refine r_ld (pc' := 8) rfl rfl rfl rfl ?_
        refine r_cb (pc' := 10) rfl (by decide) rfl ?_
        refine r_ige (pc' := 13) rfl rfl ⟨by omega, by omega⟩ ⟨by decide, by decide⟩ (fun hc33 => ?_) (fun hc33 => ?_)
        · skip
          refine r_c0 (pc' := 27) rfl rfl ?_
          refine r_st (pc' := 28) (lv' := [(1, _), (0, _)]) rfl rfl rfl rfl ?_
          have hb34 := rd_225_32 hst.1
          exact w_lv (sub_c rfl (sub_c rfl sub_n)) rfl (ih1 0 z w ⟨by omega, by omega⟩ hst (by first | omega | assumption) (by first | exact PQ_0 (fun i hi => as2 i (by omega)) (by omega) rfl | exact PQ_k as2 (by omega) (by omega) (by omega) | exact PQ_n as5 as4 (fun i hi => by rw [as5]; exact MI_e hmi (Or.inl (by omega)) i hi) (funext fun i => rfl) (by omega) (by omega)) (by first | omega | assumption) (by omega))
        · skip
          refine r_ld (pc' := 14) rfl rfl rfl rfl ?_
          refine r_gr (b := 242) (pc' := 17) rfl rfl sh_225 rfl pp_225_31 ?_
          refine r_ld (pc' := 18) rfl rfl rfl rfl ?_
          refine r_c0 (pc' := 19) rfl rfl ?_
          refine r_is (pc' := 20) rfl rfl sh_242 rfl (by omega) (by omega) hst (inS_s (inS_0 (by omega) (by omega) (by omega) (by omega))) (wr_242 ⟨by omega, by omega⟩) (fun z35 hq36 hs37 => ?_)
          have hq3 := hq36
          refine r_inc (pc' := 23) (lv' := [(0, _)]) rfl rfl rfl rfl rfl ?_
          refine r_go rfl ?_
          have hb38 := rd_225_32 hst.1
          have hf39 : z35 225 32 = z 225 32 := ((congrFun (congrFun hq36 _) _).trans (mu_ne (by omega)))
          exact w_lv (sub_c rfl (sub_c rfl sub_n)) rfl (ih0 (x1 + 1) z35 w ⟨by omega, by omega⟩ hs37 (by first | omega | assumption | (simp only [hf39]; assumption)) (by first | (intro i hi; exfalso; omega) | (intro i hi; rw [hq3]; by_cases c : i = x1.toNat; (subst c; exact mu_eq); (rw [mu_ne (by omega)]; exact as2 i (by omega)))) (by omega))
      · intro x1 z w  hx1 hst as1 as2 as3 hM
        have hpb := PQ_b as2
        refine r_ld (pc' := 29) rfl rfl rfl rfl ?_
        refine r_c0 (pc' := 30) rfl rfl ?_
        refine r_ld (pc' := 31) rfl rfl rfl rfl ?_
        have hb40 := rd_225_26 hz
        refine r_gi (pc' := 34) rfl rfl sh_225 rfl (hst.2.2.1 _ _ (notS_c (by omega) (notS_c (by omega) notS_n))) ?_
        refine r_mul (pc' := 35) rfl rfl ?_
        refine r_ige (pc' := 38) rfl rfl ⟨by omega, by omega⟩ ⟨by omega, by omega⟩ (fun hc41 => ?_) (fun hc41 => ?_)
        · skip
          have hb42 := rd_225_32 hst.1
          exact r_ret rfl (po_V hst ⟨rfl, (by have e9 : x1.toNat = (3 * z0 225 26).toNat := (by omega); rw [e9] at as2; exact as2)⟩)
        · skip
          refine r_ld (pc' := 39) rfl rfl rfl rfl ?_
          refine r_gr (b := 242) (pc' := 42) rfl rfl sh_225 rfl pp_225_31 ?_
          refine r_ld (pc' := 43) rfl rfl rfl rfl ?_
          have hb43 := rd_242 hst.1 (i := x1.toNat) (by omega)
          refine r_ia (pc' := 44) rfl rfl sh_242 rfl (by omega) (by omega) rfl ?_
          refine r_zlt (pc' := 47) rfl rfl ⟨by omega, by omega⟩ (fun hc44 => ?_) (fun hc44 => ?_)
          · skip
            refine r_ld (pc' := 51) rfl rfl rfl rfl ?_
            refine r_st (pc' := 52) (lv' := [(2, _), (0, _), (1, _)]) rfl rfl rfl rfl ?_
            have hb45 := rd_225_32 hst.1
            have hng := ng_b z
            exact w_lv (sub_c rfl (sub_c rfl (sub_c rfl sub_n))) rfl (ih2 x1 x1 z w ⟨by omega, by omega⟩ ⟨by omega, by omega⟩ ⟨by omega, by omega⟩ hst (by first | omega | assumption) (by first | exact ⟨0, MI_0 (fun i hi => as2.1 i hi) (by omega) (by omega) (by have q9 := as2.2; omega) (by omega)⟩ | exact ⟨kk + 1, MI_s hmi (by omega) (fun i hi => by rw [hq7, as5]; by_cases c : i = x2.toNat; (subst c; rw [if_pos rfl]; exact mu_eq); (rw [if_neg c, mu_ne (by omega)])) (by rw [hbh]) (by omega) (by omega) rfl⟩) (by first | exact as2.2 | omega) (by first | omega | assumption) (by first | exact as4 | exact (as2.1 _ (by omega)).symm.trans (by omega)) (by omega))
          · skip
            refine r_go rfl ?_
            refine r_inc (pc' := 98) (lv' := [(0, _)]) rfl rfl rfl rfl rfl ?_
            refine r_go rfl ?_
            have hb46 := rd_225_32 hst.1
            exact w_lv (sub_c rfl (sub_c rfl sub_n)) rfl (ih1 (x1 + 1) z w ⟨by omega, by omega⟩ hst (by first | omega | assumption) (by first | exact PQ_0 (fun i hi => as2 i (by omega)) (by omega) rfl | exact PQ_k as2 (by omega) (by omega) (by omega) | exact PQ_n as5 as4 (fun i hi => by rw [as5]; exact MI_e hmi (Or.inl (by omega)) i hi) (funext fun i => rfl) (by omega) (by omega)) (by first | omega | assumption) (by omega))
      · intro x1 x2 z w  hx1 hx2 hz0_0 hst as1 as2 as5 as3 as4 hM
        have hng0 := ng_b z
        obtain ⟨kk, hmi⟩ := as2
        have hma := MI_a hmi
        refine r_ld (pc' := 53) rfl rfl rfl rfl ?_
        refine r_gr (b := 242) (pc' := 56) rfl rfl sh_225 rfl pp_225_31 ?_
        refine r_ld (pc' := 57) rfl rfl rfl rfl ?_
        have hb47 := rd_242 hst.1 (i := x2.toNat) (by omega)
        refine r_ia (pc' := 58) rfl rfl sh_242 rfl (by omega) (by omega) rfl ?_
        refine r_zge (pc' := 61) rfl rfl ⟨by omega, by omega⟩ (fun hc48 => ?_) (fun hc48 => ?_)
        · skip
          refine r_ld (pc' := 86) rfl rfl rfl rfl ?_
          refine r_al (pc' := 87) rfl rfl rfl rfl ?_
          have hb49 := rd_225_32 hst.1
          refine r_gi (pc' := 90) rfl rfl sh_225 rfl rfl ?_
          refine r_c0 (pc' := 91) rfl rfl ?_
          refine r_add (pc' := 92) rfl rfl ?_
          refine r_pi (pc' := 95) rfl rfl sh_225 rfl rfl hst (inS_0 (by omega) (by omega) (by omega) (by omega)) (wr_225_32 ⟨by omega, by omega⟩) (fun z50 hq51 hs52 => ?_)
          refine r_inc (pc' := 98) (lv' := [(0, _), (2, _)]) rfl rfl rfl rfl rfl ?_
          refine r_go rfl ?_
          have hf53 : z50 225 32 = (z 225 32) + 1 := ((congrFun (congrFun hq51 _) _).trans mu_eq)
          have hF54 : z50 242 = z 242 := ((congrFun hq51 _).trans (mu_fn (by omega)))
          exact w_lv (sub_c rfl (sub_c rfl sub_n)) rfl (ih1 (x1 + 1) z50 w ⟨by omega, by omega⟩ hs52 (by first | omega | assumption | (simp only [hF54, hf53]; assumption)) (by first | exact PQ_0 (fun i hi => as2 i (by omega)) (by omega) rfl | exact PQ_k as2 (by omega) (by omega) (by omega) | exact PQ_n as5 as4 (fun i hi => by rw [as5]; exact MI_e hmi (Or.inl (by omega)) i hi) (funext fun i => ((congrFun (congrFun hq51 _) _).trans (mu_ne (by omega)))) (by omega) (by omega)) (by first | omega | assumption | (simp only [hF54, hf53]; assumption)) (by omega))
        · skip
          refine r_ld (pc' := 62) rfl rfl rfl rfl ?_
          refine r_gr (b := 242) (pc' := 65) rfl rfl sh_225 rfl pp_225_31 ?_
          refine r_ld (pc' := 66) rfl rfl rfl rfl ?_
          refine r_ld (pc' := 67) rfl rfl rfl rfl ?_
          have hb55 := rd_225_32 hst.1
          refine r_gi (pc' := 70) rfl rfl sh_225 rfl rfl ?_
          refine r_is (pc' := 71) rfl rfl sh_242 rfl (by omega) (by omega) hst (inS_s (inS_0 (by omega) (by omega) (by omega) (by omega))) (wr_242 ⟨by omega, by omega⟩) (fun z56 hq57 hs58 => ?_)
          have hnw := ng_w hq57 (by omega) (by omega) (by omega)
          have hq7 := hq57
          refine r_ld (pc' := 72) rfl rfl rfl rfl ?_
          refine r_gr (b := 240) (pc' := 75) rfl rfl sh_225 rfl pp_225_29 ?_
          refine r_ld (pc' := 76) rfl rfl rfl rfl ?_
          refine r_c0 (pc' := 77) rfl rfl ?_
          refine r_cSI (pc' := 80) rfl rfl rfl rfl rfl (m_177b (d := d) x2 1 hs58.1 hs58.2.1 ⟨by omega, by omega⟩ ⟨by omega, by omega⟩) (fun v59 z60 w61 p62 h63 hs64 hE65 => ?_)
          obtain ⟨rfl, rfl, rfl, hE65⟩ := hE65
          have hbh := bh_v (x := x2) (v := v59) (by omega) hE65.2.2
          have hob := hcl v59.toNat (by rw [hbh]; unfold bh; split <;> omega)
          have hb67 := rd_240 hz (i := v59.toNat) (by omega)
          refine r_ia (pc' := 81) rfl rfl sh_240 rfl (by omega) (by omega) (((congrFun (congrFun hq57 _) _).trans (mu_ne (by omega))).trans (hst.2.2.1 _ _ (notS_c (by omega) (notS_c (by omega) notS_n)))) ?_
          refine r_st (pc' := 82) (lv' := [(2, _), (0, _), (1, _)]) rfl rfl rfl rfl ?_
          refine r_go rfl ?_
          have hf68 : z56 225 32 = z 225 32 := ((congrFun (congrFun hq57 _) _).trans (mu_ne (by omega)))
          have hng := ng_b z56
          exact w_lv (sub_c rfl (sub_c rfl (sub_c rfl sub_n))) rfl (ih2 x1 (z0 240 v59.toNat) z56 w ⟨by omega, by omega⟩ ⟨by omega, by omega⟩ ⟨by omega, by omega⟩ hs58 (by first | omega | assumption | (simp only [hf68]; assumption)) (by first | exact ⟨0, MI_0 (fun i hi => as2.1 i hi) (by omega) (by omega) (by have q9 := as2.2; omega) (by omega)⟩ | exact ⟨kk + 1, MI_s hmi (by omega) (fun i hi => by rw [hq7, as5]; by_cases c : i = x2.toNat; (subst c; rw [if_pos rfl]; exact mu_eq); (rw [if_neg c, mu_ne (by omega)])) (by rw [hbh]) (by omega) (by omega) rfl⟩) (by first | exact as2.2 | omega) (by first | omega | assumption | (simp only [hf68]; assumption)) (by first | exact as4 | exact (as2.1 _ (by omega)).symm.trans (by omega)) (by omega))
  refine w_m rfl rfl ?_
  refine r_ld (pc' := 1) rfl rfl rfl rfl ?_
  refine r_c0 (pc' := 2) rfl rfl ?_
  refine r_pi (pc' := 5) rfl rfl sh_225 rfl rfl hst (inS_0 (by omega) (by omega) (by omega) (by omega)) (wr_225_32 ⟨by omega, by omega⟩) (fun z69 hq70 hs71 => ?_)
  refine r_c0 (pc' := 6) rfl rfl ?_
  refine r_st (pc' := 7) (lv' := [(1, _), (0, _)]) rfl rfl rfl rfl ?_
  have hf72 : z69 225 32 = 0 := ((congrFun (congrFun hq70 _) _).trans mu_eq)
  exact w_lv (sub_c rfl (sub_c rfl sub_n)) rfl ((key ((100000 + (36 - 0) : Int).toNat + 1)).1 0 z69 w0 ⟨by omega, by omega⟩ hs71 (by first | omega | assumption | (simp only [hf72]; assumption)) (by first | (intro i hi; exfalso; omega) | (intro i hi; rw [hq3]; by_cases c : i = x1.toNat; (subst c; exact mu_eq); (rw [mu_ne (by omega)]; exact as2 i (by omega)))) (by omega))
/-- LoopGroundModel nowAll -/
abbrev S_239v  : mS := []
abbrev E_239v  (z0 w0 : mZ) (x y tx it mt tt ct : Option Nat) : Int → mZ → mZ → mP → Prop := fun v z w p => p = (pq x y tx it mt tt ct) ∧ z0 = z ∧ w0 = w ∧ 0 ≤ v ∧ v ≤ 1800000000000000 ∧ (v = sm (tr (rE z0) (w0 270)) 18)
theorem m_239v {d : Nat} {z0 w0 : mZ} {x y tx it mt tt ct : Option Nat}  (hz : rz z0) (hw : rw_ w0) : wc (d + 3) 239 [.ref 225] (mk z0 w0 (pq x y tx it mt tt ct)) (poL S_239v z0 w0 (E_239v  z0 w0 x y tx it mt tt ct)) := by
  have hst : st_ S_239v z0 w0 z0 w0 := st_rf hz hw
  refine w_m rfl rfl ?_
  refine r_ld (pc' := 1) rfl rfl rfl rfl ?_
  refine r_c0 (pc' := 2) rfl rfl ?_
  refine r_cVL (pc' := 5) rfl rfl rfl rfl rfl sh_225 (m_181n (d := d) ((-1)) hst.1 hst.2.1 ⟨by omega, by omega⟩) (fun v9 z10 w11 p12 h13 hs14 hE15 => ?_)
  obtain ⟨rfl, rfl, rfl, hE15⟩ := hE15
  have hsn := hE15.2.2
  exact r_rl rfl (po_L hst ⟨by omega, by omega⟩ ⟨rfl, rfl, rfl, by omega, by omega, (by exact hsn)⟩)
end
section
/-! methods, printed by wip/tools/vcg.py -/
/-- LoopGround point -/
abbrev S_107x  : mS := []
abbrev E_107x (t : Nat) (u : Nat) (a1 : Int) (a2 : Int) (z0 w0 : mZ) (tx it mt tt ct : Option Nat) : Int → mZ → mZ → mP → Prop := fun v z w p => p = (pq (some t) (some u) tx it mt tt ct) ∧ z0 = z ∧ w0 = w ∧ (-2147483648) ≤ v ∧ v ≤ 2147483647 ∧ (CV z w t ∧ (GA z0 z0 t → GA z z t) ∧ z 1 15 = z0 1 15 ∧ (0 ≤ a1 → a1 < z0 t 0 → 0 ≤ a2 → a2 ≤ 2 → v = z0 (t + 3) (3 * a1 + a2).toNat) ∧ ((a1 < 0 ∨ z0 t 0 ≤ a1 ∨ a2 < 0 ∨ 2 < a2) → v = -1))
theorem m_107x {d : Nat} {z0 w0 : mZ} {tx it mt tt ct : Option Nat} (t : Nat) (u : Nat) (a1 : Int) (a2 : Int) (hz : rz z0) (hw : rw_ w0) (ha1 : (-2147483648) ≤ a1 ∧ a1 ≤ 2147483647) (ha2 : (-2147483648) ≤ a2 ∧ a2 ≤ 2147483647) (ht : isT t) (hu : isT u) (hcv : CV z0 w0 t) : wc (d + 1) 107 [.ref 1, .int (Int32.ofInt a1), .int (Int32.ofInt a2)] (mk z0 w0 (pq (some t) (some u) tx it mt tt ct)) (poI S_107x z0 w0 (E_107x t u a1 a2 z0 w0 tx it mt tt ct)) := by
  have hst : st_ S_107x z0 w0 z0 w0 := st_rf hz hw
  have htb : 159 ≤ t ∧ t ≤ 192 := by have := ht; unfold isT at this; omega
  have hub : 159 ≤ u ∧ u ≤ 192 := by have := hu; unfold isT at this; omega
  have hz7 := rd_1_15 hz
  have hz8 := rd_T_0 ht hz
  refine w_m rfl rfl ?_
  refine r_ld (pc' := 1) rfl rfl rfl rfl ?_
  refine r_zlt (pc' := 4) rfl rfl ⟨by omega, by omega⟩ (fun hc9 => ?_) (fun hc9 => ?_)
  · skip
    refine r_c0 (pc' := 25) rfl rfl ?_
    exact r_ri rfl (po_I hst ⟨by decide, by decide⟩ ⟨rfl, rfl, rfl, by omega, by omega, (by exact ⟨hcv, fun q => q, rfl, fun _ _ _ _ => by exfalso; omega, fun _ => rfl⟩)⟩)
  · skip
    refine r_ld (pc' := 5) rfl rfl rfl rfl ?_
    refine r_ld (pc' := 6) rfl rfl rfl rfl ?_
    refine r_gr (b := t) (pc' := 9) rfl rfl sh_1 rfl pp_1_13 ?_
    have hb10 := rd_T_0 ht hz
    refine r_gi (pc' := 12) rfl rfl (sh_T ht) rfl rfl ?_
    refine r_ige (pc' := 15) rfl rfl ⟨by omega, by omega⟩ ⟨by omega, by omega⟩ (fun hc11 => ?_) (fun hc11 => ?_)
    · skip
      refine r_c0 (pc' := 25) rfl rfl ?_
      exact r_ri rfl (po_I hst ⟨by decide, by decide⟩ ⟨rfl, rfl, rfl, by omega, by omega, (by exact ⟨hcv, fun q => q, rfl, fun _ _ _ _ => by exfalso; omega, fun _ => rfl⟩)⟩)
    · skip
      refine r_ld (pc' := 16) rfl rfl rfl rfl ?_
      refine r_zlt (pc' := 19) rfl rfl ⟨by omega, by omega⟩ (fun hc12 => ?_) (fun hc12 => ?_)
      · skip
        refine r_c0 (pc' := 25) rfl rfl ?_
        exact r_ri rfl (po_I hst ⟨by decide, by decide⟩ ⟨rfl, rfl, rfl, by omega, by omega, (by exact ⟨hcv, fun q => q, rfl, fun _ _ _ _ => by exfalso; omega, fun _ => rfl⟩)⟩)
      · skip
        refine r_ld (pc' := 20) rfl rfl rfl rfl ?_
        refine r_c0 (pc' := 21) rfl rfl ?_
        refine r_ile (pc' := 24) rfl rfl ⟨by omega, by omega⟩ ⟨by decide, by decide⟩ (fun hc13 => ?_) (fun hc13 => ?_)
        · skip
          refine r_ld (pc' := 27) rfl rfl rfl rfl ?_
          refine r_gr (b := t) (pc' := 30) rfl rfl sh_1 rfl pp_1_13 ?_
          refine r_gr (b := t + 3) (pc' := 33) rfl rfl (sh_T ht) rfl (pp_T_7 ht) ?_
          refine r_c0 (pc' := 34) rfl rfl ?_
          refine r_ld (pc' := 35) rfl rfl rfl rfl ?_
          refine r_mul (pc' := 36) rfl rfl ?_
          refine r_ld (pc' := 37) rfl rfl rfl rfl ?_
          refine r_add (pc' := 38) rfl rfl ?_
          have hb14 := rd_T3 ht hz (i := ((3 * a1) + a2).toNat) (by omega)
          refine r_ia (pc' := 39) rfl rfl (sh_T3 ht) rfl (by omega) (by omega) rfl ?_
          exact r_ri rfl (po_I hst ⟨by omega, by omega⟩ ⟨rfl, rfl, rfl, by omega, by omega, (by exact ⟨hcv, fun q => q, rfl, fun _ _ _ _ => rfl, fun q => by exfalso; omega⟩)⟩)
        · skip
          refine r_c0 (pc' := 25) rfl rfl ?_
          exact r_ri rfl (po_I hst ⟨by decide, by decide⟩ ⟨rfl, rfl, rfl, by omega, by omega, (by exact ⟨hcv, fun q => q, rfl, fun _ _ _ _ => by exfalso; omega, fun _ => rfl⟩)⟩)
/-- Acts keep -/
abbrev S_3y  : mS := [(39, 39, 1, 1), (39, 39, 2, 2), (39, 39, 0, 0), (41, 101, 0, 17)]
abbrev E_3y (t : Nat) (n : Nat) (z0 w0 : mZ) (x y tx it mt tt ct : Option Nat) : mZ → mZ → mP → Prop := fun z w p => p = (pq x y tx it mt tt ct) ∧ (AK z w t ∧ (∀ j : Nat, j < 18 → w (aR z (z 39 0)) j = w0 n j) ∧ (z 39 1 = 0 ∧ ((z0 39 0 ≤ 59 ∧ z 39 0 = z0 39 0 + 1 ∧ z 39 2 = z0 39 2) ∨ (z0 39 0 = 60 ∧ z 39 0 = 60 ∧ z 39 2 = (z0 39 2 + 1) % 61))) ∧ (∀ a, 41 ≤ a → a ≤ 101 → a ≠ aR z (z 39 0) → w a = w0 a))
theorem m_3y {d : Nat} {z0 w0 : mZ} {x y tx it mt tt ct : Option Nat} (t : Nat) (n : Nat) (hz : rz z0) (hw : rw_ w0) (ht : isT t) (hwt : WTt z0 t) (hak : AK z0 w0 t) (hft : FTt z0 t (w0 n)) (hnb : ∀ e : Nat, e < 18 → 0 ≤ w0 n e ∧ w0 n e ≤ 100000000000000) (hno : 102 ≤ n) (hn : lr n) (b15n : 15 ≤ n) : wc (d + 2) 3 [.ref 39, .ref n] (mk z0 w0 (pq x y tx it mt tt ct)) (poV S_3y z0 w0 (E_3y t n z0 w0 x y tx it mt tt ct)) := by
  have hst : st_ S_3y z0 w0 z0 w0 := st_rf hz hw
  have htb : 159 ≤ t ∧ t ≤ 192 := by have := ht; unfold isT at this; omega
  have hz38 := rd_39_0 hz
  have hz39 := rd_39_2 hz
  have h390 := rd_39_0 hz
  have h391 := rd_39_1 hz
  have h392 := rd_39_2 hz
  have key : ∀ N : Nat, (∀ (z w : mZ), st_ S_3y z0 w0 z w → (z 39 1 = 0 ∧ ((z0 39 0 ≤ 59 ∧ z 39 0 = z0 39 0 + 1 ∧ z 39 2 = z0 39 2) ∨ (z0 39 0 = 60 ∧ z 39 0 = 60 ∧ z 39 2 = (z0 39 2 + 1) % 61))) → (∀ a, 41 ≤ a → a ≤ 101 → w a = w0 a) → 4 < (N : Int) → wp_ (d + 1) 3 2 none (40, [(0, .ref 39), (1, .ref n)], [], mk z w (pq x y tx it mt tt ct)) (poV S_3y z0 w0 (E_3y t n z0 w0 x y tx it mt tt ct))) := by
    intro N
    induction N with
    | zero =>
      intro  z w
      intros; exfalso; omega
    | succ N ih =>
      have ih0 := ih; clear ih
      intro  z w  hst as1 as2 hM
      have gwn : w n = w0 n := funext fun i => hst.2.2.2 _ _ (notS_c (by omega) (notS_c (by omega) (notS_c (by omega) (notS_c (by omega) (notS_n)))))
      refine r_ld (pc' := 41) rfl rfl rfl rfl ?_
      refine r_ld (pc' := 42) rfl rfl rfl rfl ?_
      refine r_cVR (pc' := 45) rfl rfl rfl rfl rfl sh_39 (m_2 (d := d)  hst.1 hst.2.1 ) (fun v40 z41 w42 p43 hs45 hE46 => ?_)
      rcases hE46 with ⟨rfl, rfl, rfl, rfl, hrw⟩
      have hb48 := rd_39_2 hst.1
      have hb49 := rd_39_0 hst.1
      refine r_cSV (pc' := 48) rfl rfl rfl rfl rfl (m_140b (d := d) n (41 + ((z 39 2 + (z 39 0)) % 61).toNat) hst.1 hst.2.1 (by first | omega | assumption) (by intro e he; rw [gwn]; exact hnb e he) hn (by first | omega | assumption) (lr_41 (k := ((z 39 2 + (z 39 0)) % 61).toNat) (by omega) ) (wrb_41 (k := ((z 39 2 + (z 39 0)) % 61).toNat) (by omega) ) (by first | omega | assumption)) (fun z51 w52 p53 hs55 hE56 => ?_)
      have hs57 := st_tr hst hs55 (subS_c (fun _ _ _ _ _ _ => inS_s (inS_s (inS_s (inS_0 (by omega) (by omega) (by omega) (by omega))))) subS_n)
      obtain ⟨rfl, hE56⟩ := hE56
      have hcp := hE56
      have hf58 : z51 39 0 = z 39 0 := (hs55.2.2.1 _ _ (notS_c (by omega) notS_n))
      have hb59 := rd_39_1 hst.1
      have hf60 : z51 39 1 = z 39 1 := (hs55.2.2.1 _ _ (notS_c (by omega) notS_n))
      have hf61 : z51 39 2 = z 39 2 := (hs55.2.2.1 _ _ (notS_c (by omega) notS_n))
      have hb62 := rd_T_0 ht hz
      have hf63 : z51 t 0 = z0 t 0 := ((hs55.2.2.1 _ _ (notS_c (by omega) notS_n)).trans (hst.2.2.1 _ _ (notS_c (by omega) (notS_c (by omega) (notS_c (by omega) (notS_c (by omega) notS_n))))))
      have hF64 : z51 (t + 1) = z0 (t + 1) := ((funext fun _ => hs55.2.2.1 _ _ (notS_c (by omega) notS_n)).trans (funext fun _ => hst.2.2.1 _ _ (notS_c (by omega) (notS_c (by omega) (notS_c (by omega) (notS_c (by omega) notS_n))))))
      exact r_ret rfl (po_V hs57 ⟨rfl, (by have p3 : ∀ j : Nat, j < 18 → w52 (aR z51 (z51 39 0)) j = w0 n j := (fun j hj => by unfold aR; rw [show z51 39 2 = z 39 2 by omega, show z51 39 0 = z 39 0 by omega, hcp j hj, gwn]) ; have p4 : ∀ a, 41 ≤ a → a ≤ 101 → a ≠ aR z51 (z51 39 0) → w52 a = w0 a := (by intro a h1 h2 hne; unfold aR at hne; rw [show z51 39 2 = z 39 2 by omega, show z51 39 0 = z 39 0 by omega] at hne; exact (funext fun i => (hs55.2.2.2 _ _ (notS_c (by omega) notS_n))).trans (as2 a h1 h2)); exact ⟨AK_k hwt hak (hs57.2.2.1 _ _ (notS_c (by omega) (notS_c (by omega) (notS_c (by omega) (notS_c (by omega) (notS_n)))))) (funext fun i => hs57.2.2.1 _ _ (notS_c (by omega) (notS_c (by omega) (notS_c (by omega) (notS_c (by omega) (notS_n)))))) hft (by omega) (by omega) (by omega) (by omega) (by omega) (by omega) (by omega) p3 p4, p3, ⟨by omega, by omega⟩, p4⟩)⟩)
  refine w_m rfl rfl ?_
  refine r_ld (pc' := 1) rfl rfl rfl rfl ?_
  refine r_c0 (pc' := 2) rfl rfl ?_
  refine r_pi (pc' := 5) rfl rfl sh_39 rfl rfl hst (inS_0 (by omega) (by omega) (by omega) (by omega)) (wr_39_1 ⟨by omega, by omega⟩) (fun z65 hq66 hs67 => ?_)
  refine r_ld (pc' := 6) rfl rfl rfl rfl ?_
  have hb68 := rd_39_0 hz
  refine r_gi (pc' := 9) rfl rfl sh_39 rfl ((congrFun (congrFun hq66 _) _).trans (mu_ne (by omega))) ?_
  refine r_cb (pc' := 11) rfl (by decide) rfl ?_
  refine r_ige (pc' := 14) rfl rfl ⟨by omega, by omega⟩ ⟨by decide, by decide⟩ (fun hc69 => ?_) (fun hc69 => ?_)
  · skip
    refine r_ld (pc' := 28) rfl rfl rfl rfl ?_
    refine r_ld (pc' := 29) rfl rfl rfl rfl ?_
    have hb70 := rd_39_2 hz
    refine r_gi (pc' := 32) rfl rfl sh_39 rfl ((congrFun (congrFun hq66 _) _).trans (mu_ne (by omega))) ?_
    refine r_c0 (pc' := 33) rfl rfl ?_
    refine r_add (pc' := 34) rfl rfl ?_
    refine r_cb (pc' := 36) rfl (by decide) rfl ?_
    refine r_rm (pc' := 37) (v := ((z0 39 2) + 1) % 61) rfl rfl ⟨by omega, by omega⟩ ⟨by decide, by decide⟩ (by decide) (tmod_n (by omega)) ?_
    refine r_pi (pc' := 40) rfl rfl sh_39 rfl rfl hs67 (inS_s (inS_0 (by omega) (by omega) (by omega) (by omega))) (wr_39_2 ⟨by omega, by omega⟩) (fun z71 hq72 hs73 => ?_)
    have hf74 : z71 39 1 = 0 := (((congrFun (congrFun hq72 _) _).trans (mu_ne (by omega))).trans ((congrFun (congrFun hq66 _) _).trans mu_eq))
    have hf75 : z71 39 0 = z0 39 0 := (((congrFun (congrFun hq72 _) _).trans (mu_ne (by omega))).trans ((congrFun (congrFun hq66 _) _).trans (mu_ne (by omega))))
    have hf76 : z71 39 2 = ((z0 39 2) + 1) % 61 := ((congrFun (congrFun hq72 _) _).trans mu_eq)
    exact w_lv (sub_c rfl (sub_c rfl sub_n)) rfl ((key ((4 : Int).toNat + 1)) z71 w0 hs73 (by first | omega | assumption | (simp only [hf74, hf75, hf76]; assumption)) (by exact fun a h1 h2 => rfl) (by omega))
  · skip
    refine r_ld (pc' := 15) rfl rfl rfl rfl ?_
    refine r_al (pc' := 16) rfl rfl rfl rfl ?_
    refine r_gi (pc' := 19) rfl rfl sh_39 rfl ((congrFun (congrFun hq66 _) _).trans (mu_ne (by omega))) ?_
    refine r_c0 (pc' := 20) rfl rfl ?_
    refine r_add (pc' := 21) rfl rfl ?_
    refine r_pi (pc' := 24) rfl rfl sh_39 rfl rfl hs67 (inS_s (inS_s (inS_0 (by omega) (by omega) (by omega) (by omega)))) (wr_39_0 ⟨by omega, by omega⟩) (fun z77 hq78 hs79 => ?_)
    refine r_go rfl ?_
    have hf80 : z77 39 1 = 0 := (((congrFun (congrFun hq78 _) _).trans (mu_ne (by omega))).trans ((congrFun (congrFun hq66 _) _).trans mu_eq))
    have hf81 : z77 39 0 = (z0 39 0) + 1 := ((congrFun (congrFun hq78 _) _).trans mu_eq)
    have hb82 := rd_39_2 hz
    have hf83 : z77 39 2 = z0 39 2 := (((congrFun (congrFun hq78 _) _).trans (mu_ne (by omega))).trans ((congrFun (congrFun hq66 _) _).trans (mu_ne (by omega))))
    exact w_lv (sub_c rfl (sub_c rfl sub_n)) rfl ((key ((4 : Int).toNat + 1)) z77 w0 hs79 (by first | omega | assumption | (simp only [hf80, hf81, hf83]; assumption)) (by exact fun a h1 h2 => rfl) (by omega))
end
section
/-! a told ground with its points -/
theorem PTr_i {z z' : mZ} (e0 : z' 225 26 = z 225 26) (f2 : ∀ i, z' 240 i = z 240 i) (f5 : ∀ i, z' 241 i = z 241 i) (fl : FLr z) (p : PQ (z 240) (3 * z 225 26).toNat (3 * z 225 26).toNat (z' 242) (z' 225 32)) : PTr z' := by
  unfold PTr FLr rE
  rw [e0, show z' 240 = z 240 from funext f2, show z' 241 = z 241 from funext f5]
  exact ⟨p, fl⟩
theorem PTz_x {z z' : mZ} {t : Nat} (a : WTt z' t) (e0 : z t 0 = z' t 0) (e2 : z t 2 = z' t 2) (f2 : ∀ i, i < 36 → z (t + 2) i = z' (t + 2) i) (f3 : ∀ i, i < 36 → z (t + 3) i = z' (t + 3) i) (f5 : ∀ i, i < 18 → z (t + 5) i = z' (t + 5) i) (p : PTz z' t) : PTz z t := by
  have a : WT (z' t 0) (z' t 1) (z' (t + 1)) (z' (t + 2)) (z' (t + 5)) := a
  have m0 := a.m0
  have mm := a.hm
  have hE := a.hE
  have cl : ∀ c, c < (3 * z' t 0).toNat → (z' (t + 2) (bh c)).toNat < (3 * z' t 0).toNat := fun c hc => by
    have l := a.oL (bh c) (by unfold bh; split <;> omega)
    omega
  have c := ptf_c (o := z' (t + 2)) (o' := z (t + 2)) cl (fun c hc => (f2 (bh c) (by unfold bh; split <;> omega)).symm) (3 * z' t 0).toNat (Nat.le_refl _)
  obtain ⟨⟨p1, p2⟩, p3⟩ := p
  unfold PTz PQ
  rw [e0, e2, ← c]
  refine ⟨⟨fun i hi => (f3 i (by omega)).trans (p1 i hi), p2⟩, fun e he => ?_⟩
  have l := a.fL e (by omega)
  rw [f5 e (by omega), f2 _ (by omega)]
  exact p3 e he
def TYc (h : Int → Int) (z w : mZ) (t : Nat) : Prop := TXc h z w t ∧ PTz z t
theorem TYc_f {h : Int → Int} {z w z' w' : mZ} {t : Nat} (e0 : z' t 0 = z t 0) (e3 : z' t 3 = z t 3) (e4 : z' t 4 = z t 4) (eT : ∀ i, z' (t + 1) i = z (t + 1) i) (eN : ∀ j i, j < 8 → w' (t + 8 + j) i = w (t + 8 + j) i) (eC : ∀ i, z' (t + 18) i = z (t + 18) i) (eA : ∀ a i, a < 6 → z' (t + 20 + a) i = z (t + 20 + a) i) (eB : ∀ a i, a < 6 → z' (t + 27 + a) i = z (t + 27 + a) i) (e2 : z' t 2 = z t 2) (f2 : ∀ i, z' (t + 2) i = z (t + 2) i) (f3 : ∀ i, z' (t + 3) i = z (t + 3) i) (f5 : ∀ i, z' (t + 5) i = z (t + 5) i) (x : TYc h z w t) : TYc h z' w' t := ⟨TXc_f e0 e3 e4 eT eN eC eA eB x.1, PTz_f e0 e2 f2 f3 f5 x.2⟩
/-- LoopGround$Reader readGround -/
abbrev S_32d (t : Nat) : mS := [(3, 3, 3, 3), (t, t, 0, 0), (t, t, 1, 1), (t, t, 2, 2), (t, t, 3, 3), (t, t, 4, 4), (t + 4, t + 4, 0, 17), (t + 8, t + 15, 0, 17), (3, 3, 0, 0), (3, 3, 1, 1), (3, 3, 5, 5), (3, 3, 6, 6), (3, 3, 8, 8), (3, 3, 7, 7), (3, 3, 9, 9), (3, 3, 10, 10), (t + 1, t + 1, 0, 35), (t + 6, t + 6, 0, 17), (t + 5, t + 5, 0, 17), (t + 3, t + 3, 0, 35), (t + 2, t + 2, 0, 35), (t + 20, t + 25, 0, 7), (t + 27, t + 32, 0, 7), (t + 17, t + 17, 0, 5), (t + 18, t + 18, 0, 5), (t + 16, t + 16, 0, 7)]
abbrev E_32d (h : Int → Int) (a2 : Int) (t : Nat) (z0 w0 : mZ) (x y tx it mt tt ct : Option Nat) : Int → mZ → mZ → mP → Prop := fun v z w p => p = (pq x y (some 2) (some t) mt tt ct) ∧ 0 ≤ v ∧ v ≤ 1 ∧ (((z 3 7 = 2 → 0 ≤ z 3 9 ∧ z 3 9 ≤ 9999) ∧ (v = 1 → WTt z t ∧ LF z w t)) ∧ (v = 1 → TE h (z t 0) (z t 3) (z t 4) ∧ z 3 0 = 0 ∧ z 3 1 = -1 ∧ TYc h z w t) ∧ (v = 0 → TF h (z 3 0) (z 3 1) ∧ z 3 0 ≠ 0))
theorem m_32d {d : Nat} {z0 w0 : mZ} {x y tx it mt tt ct : Option Nat} (h : Int → Int) (a2 : Int) (t : Nat) (hz : rz z0) (hw : rw_ w0) (ha2 : 0 ≤ a2 ∧ a2 ≤ 1600) (ht : isT t) (hkn : (z0 3 7 = 2 → 0 ≤ z0 3 9 ∧ z0 3 9 ≤ 9999)) (hhx : hr (fun i => z0 2 i % 256) a2 = h) : wc (d + 6) 32 [.ref 3, .ref 2, .int (Int32.ofInt a2), .ref t] (mk z0 w0 (pq x y tx it mt tt ct)) (poI (S_32d t) z0 w0 (E_32d h a2 t z0 w0 x y tx it mt tt ct)) := by
  refine wc_mono (wc_3I (X := fun v z w p => v = 1 → PTz z t) (m_32c (d := d) (x := x) (y := y) (tx := tx) (it := it) (mt := mt) (tt := tt) (ct := ct) h a2 t hz hw ha2 ht hkn hhx) (m_32p (d := d) (x := x) (y := y) (tx := tx) (it := it) (mt := mt) (tt := tt) (ct := ct) a2 t hz hw ha2 ht hkn) ?_) ?_
  · intro v z w p z' w' p' r1 r2 q1 q2 e hE q
    have k := hE.2.2.2.2
    exact PTz_x (k.1 q).1 (mk_fo e (sh_T ht) rfl (by have q := rd_T_0 ht r1; exact ⟨by omega, by omega⟩) (by have q := rd_T_0 ht r2; exact ⟨by omega, by omega⟩)) (mk_fo e (sh_T ht) rfl (by have q := rd_T_2 ht r1; exact ⟨by omega, by omega⟩) (by have q := rd_T_2 ht r2; exact ⟨by omega, by omega⟩))
      (fun i hi => mk_fa e (sh_T2 ht) (by have q := rd_T2 ht r1 hi; exact ⟨by omega, by omega⟩) (by have q := rd_T2 ht r2 hi; exact ⟨by omega, by omega⟩)) (fun i hi => mk_fa e (sh_T3 ht) (by have q := rd_T3 ht r1 hi; exact ⟨by omega, by omega⟩) (by have q := rd_T3 ht r2 hi; exact ⟨by omega, by omega⟩)) (fun i hi => mk_fa e (sh_T5 ht) (by have q := rd_T5 ht r1 hi; exact ⟨by omega, by omega⟩) (by have q := rd_T5 ht r2 hi; exact ⟨by omega, by omega⟩)) (k.2 q)
  · rintro R ⟨v, z, w, p, e, hv, hs, hE, hX⟩
    obtain ⟨k1, k2, k3, k4, k5, k6⟩ := hE
    exact ⟨v, z, w, p, e, hv, hs, k1, k2, k3, k4, fun q => ⟨(k5 q).1, (k5 q).2.1, (k5 q).2.2.1, (k5 q).2.2.2, hX q⟩, k6⟩
end
section
/-! loops, as a pure function of the ground and the numbers -/
section
variable {m E : Int} {T o fs n : Nat → Int}
theorem tk_a (T o n : Nat → Int) (x : Nat × Int) (i : Nat) : ∀ k, tk T o n x (i + k) = tk T o n (tk T o n x i) k
  | 0 => rfl
  | k + 1 => by
    show gg T n (vv T o n (tk T o n x (i + k))) = gg T n (vv T o n (tk T o n (tk T o n x i) k))
    rw [tk_a T o n x i k]
theorem tk_ex (h : WT m E T o fs) (f : FT m.toNat (vT T) n) {x : Nat × Int} (v : vd m T n x) : ∃ K : Nat, 0 < K ∧ (K : Int) ≤ sm n 18 ∧ tk T o n x K = x := by
  apply Classical.byContradiction
  intro q
  have s0 := sm_nn (f := n) 18 f.1
  have k := tk_n h f v (k := (sm n 18).toNat + 1) (fun j h1 h2 e => q ⟨j, h1, by omega, e⟩)
  omega
theorem tk_m {x : Nat × Int} {K : Nat} (hK : 0 < K) (e : tk T o n x K = x) : ∀ i : Nat, ∃ j, j < K ∧ tk T o n x i = tk T o n x j := by
  intro i
  induction i using Nat.strongRecOn with
  | ind i ih =>
    by_cases c : i < K
    · exact ⟨i, c, rfl⟩
    · obtain ⟨j, h1, h2⟩ := ih (i - K) (by omega)
      have e2 : tk T o n x (K + (i - K)) = tk T o n x (i - K) := by rw [tk_a, e]
      rw [show K + (i - K) = i by omega] at e2
      exact ⟨j, h1, e2.trans h2⟩
theorem tk_E {x : Nat × Int} {K : Nat} (hK : 0 < K) (e : tk T o n x K = x) (P : Nat × Int → Prop) : (∃ j, j < K ∧ P (tk T o n x j)) ↔ ∃ j, P (tk T o n x j) := by
  constructor
  · rintro ⟨j, _, p⟩; exact ⟨j, p⟩
  · rintro ⟨j, p⟩
    obtain ⟨i, h1, h2⟩ := tk_m hK e j
    exact ⟨i, h1, by rw [← h2]; exact p⟩
theorem nu_vv (h : WT m E T o fs) {x : Nat × Int} (v : vd m T n x) : nu T fs n (vv T o n x) = nu T fs n x := by
  obtain ⟨s, i⟩ := x
  obtain ⟨v1, v2, v3⟩ := v
  have v1 : (s : Int) < 3 * m := v1
  have e : vT T (o s).toNat = vT T s := by show (T (o s).toNat).toNat = (T s).toNat; rw [h.oT s v1]
  have tE := h.tE s v1
  have fl : 0 ≤ fs (vT T s) ∧ fs (vT T s) < 3 * m ∧ T (fs (vT T s)).toNat = ((vT T s : Nat) : Int) := h.fL (vT T s) (by show (((T s).toNat : Nat) : Int) < E; omega)
  have k := h.tw s (fs (vT T s)).toNat v1 (by omega) (by rw [fl.2.2]; show T s = (((T s).toNat : Nat) : Int); omega)
  have on := h.on s v1
  have ol := h.oL s v1
  show sm n (vT T (o s).toNat) + (if (((o s).toNat : Nat) : Int) = fs (vT T (o s).toNat) then n (vT T s) - 1 - i else n (vT T (o s).toNat) - 1 - (n (vT T s) - 1 - i)) = sm n (vT T s) + (if (s : Int) = fs (vT T s) then i else n (vT T s) - 1 - i)
  rw [e]
  rcases k with k | k
  · rw [if_neg (by omega), if_pos (by omega)]; omega
  · rw [if_pos (by omega), if_neg (by omega)]
/-- the hand: to the corner ahead -/
def hcx (T n : Nat → Int) (u : Nat × Int) : Prop := u.2 < (n (vT T (ah u.1)) + n (vT T u.1) - n (vT T (bh u.1))) / 2
def hdx (T o n : Nat → Int) (y : Nat × Int) : Prop := hcx T n (vv T o n y)
def VX (T o fs n : Nat → Int) (x : Nat × Int) (g : Int) : Prop := ∃ k, nu T fs n (tk T o n x k) = g
def RGx (T o n : Nat → Int) (x : Nat × Int) : Prop := ¬ ((∃ k, hdx T o n (tk T o n x k)) ∧ ∃ k, ¬ hdx T o n (tk T o n x k))
def CLV (m : Int) (T o fs n : Nat → Int) (V : Int → Prop) : Prop := ∀ y, vd m T n y → V (nu T fs n y) → ∀ k, V (nu T fs n (tk T o n y k))
/-- a loop holds all that is passed on the way from one of its strands, either way -/
theorem VX_cl (h : WT m E T o fs) (f : FT m.toNat (vT T) n) {x : Nat × Int} (v : vd m T n x) : CLV m T o fs n (VX T o fs n x) := by
  rintro y vy ⟨i, q⟩ k
  obtain ⟨K, hK, _, eK⟩ := tk_ex h f v
  rcases nu_i (o := o) h f.1 (tk_v h f v i) vy q with c | c
  · exact ⟨i + k, by rw [tk_a, c]⟩
  · have r : ∀ k, ∃ j, tk T o n y k = vv T o n (tk T o n x j) := by
      intro k
      induction k with
      | zero => exact ⟨i, by show y = _; rw [c, (vv_v h vy).2.1]⟩
      | succ k ih =>
        obtain ⟨j, e⟩ := ih
        refine ⟨j + K - 1, ?_⟩
        have vj := tk_v h f v j
        have a : tk T o n x (j + K) = tk T o n x j := by rw [Nat.add_comm, tk_a, eK]
        have b : tk T o n x (j + K - 1 + 1) = gg T n (vv T o n (tk T o n x (j + K - 1))) := rfl
        rw [show j + K - 1 + 1 = j + K by omega] at b
        show gg T n (vv T o n (tk T o n y k)) = _
        rw [e, (vv_v h vj).2.1, ← a, b, (gg_v h.m0 f (vv_v h (tk_v h f v (j + K - 1))).1).2.1]
    obtain ⟨j, e⟩ := r k
    exact ⟨j, by rw [e, nu_vv h (tk_v h f v j)]⟩
theorem CLV_o {V W : Int → Prop} (a : CLV m T o fs n V) (b : CLV m T o fs n W) : CLV m T o fs n (fun g => V g ∨ W g) := fun y vy q k => q.imp (fun q => a y vy q k) (fun q => b y vy q k)
abbrev LSt : Type := (Int → Prop) × Int × Int
noncomputable def lpn (T o fs n : Nat → Int) (e i : Nat) (s : LSt) : LSt := (fun g => s.1 g ∨ VX T o fs n ((fs e).toNat, (i : Int)) g, s.2.1 + 1, s.2.2 + ifp (RGx T o n ((fs e).toNat, (i : Int))) 1 0)
noncomputable def lpi (T o fs n : Nat → Int) (e : Nat) : Nat → LSt → LSt
  | 0 => fun s => s
  | i + 1 => fun s => ifp ((lpi T o fs n e i s).1 (sm n e + i)) (lpi T o fs n e i s) (lpn T o fs n e i (lpi T o fs n e i s))
noncomputable def lpe (T o fs n : Nat → Int) : Nat → LSt
  | 0 => (fun _ => False, 0, 0)
  | e + 1 => lpi T o fs n e (n e).toNat (lpe T o fs n e)
theorem lpi_y {e i : Nat} {s : LSt} (h : (lpi T o fs n e i s).1 (sm n e + i)) : lpi T o fs n e (i + 1) s = lpi T o fs n e i s := ifp_t h
theorem lpi_n {e i : Nat} {s : LSt} (h : ¬ (lpi T o fs n e i s).1 (sm n e + i)) : lpi T o fs n e (i + 1) s = lpn T o fs n e i (lpi T o fs n e i s) := ifp_f h
theorem vd_st (h : WT m E T o fs) {e : Nat} (he : (e : Int) < E) {i : Int} (h0 : 0 ≤ i) (h1 : i < n e) : vd m T n ((fs e).toNat, i) := by
  have f := h.fL e he
  refine ⟨by show (((fs e).toNat : Nat) : Int) < 3 * m; omega, h0, ?_⟩
  show i < n (T (fs e).toNat).toNat
  rw [f.2.2, show ((e : Nat) : Int).toNat = e by omega]
  exact h1
theorem nu_st (h : WT m E T o fs) {e : Nat} (he : (e : Int) < E) {i : Int} : nu T fs n ((fs e).toNat, i) = sm n e + i := by
  have f := h.fL e he
  have q : (T (fs e).toNat).toNat = e := by rw [f.2.2]; omega
  show sm n (T (fs e).toNat).toNat + (if (((fs e).toNat : Nat) : Int) = fs (T (fs e).toNat).toNat then i else n (T (fs e).toNat).toNat - 1 - i) = _
  rw [q, if_pos (by omega)]
theorem lpi_cl (h : WT m E T o fs) (f : FT m.toNat (vT T) n) {e : Nat} (he : (e : Int) < E) {s : LSt} (c : CLV m T o fs n s.1) : ∀ i : Nat, (i : Int) ≤ n e → CLV m T o fs n (lpi T o fs n e i s).1
  | 0, _ => c
  | i + 1, hi => by
    have k := lpi_cl h f he c i (by omega)
    by_cases q : (lpi T o fs n e i s).1 (sm n e + i)
    · rw [lpi_y q]; exact k
    · rw [lpi_n q]
      exact CLV_o k (VX_cl h f (vd_st h he (by omega) (by omega)))
theorem lpe_cl (h : WT m E T o fs) (f : FT m.toNat (vT T) n) : ∀ e : Nat, (e : Int) ≤ E → CLV m T o fs n (lpe T o fs n e).1
  | 0, _ => fun _ _ q _ => q
  | e + 1, he => by
    have m1 := h.hm
    have m2 := h.hE
    have n0 := f.1 e (by omega)
    exact lpi_cl h f (by omega) (lpe_cl h f e (by omega)) (n e).toNat (by omega)
/-- so many loops at most, so many rings -/
theorem lpi_b {e : Nat} {s : LSt} (c : 0 ≤ s.2.2 ∧ s.2.2 ≤ s.2.1) : ∀ i : Nat, (0 ≤ (lpi T o fs n e i s).2.2 ∧ (lpi T o fs n e i s).2.2 ≤ (lpi T o fs n e i s).2.1) ∧ (lpi T o fs n e i s).2.1 ≤ s.2.1 + i
  | 0 => ⟨c, by show s.2.1 ≤ s.2.1 + ((0 : Nat) : Int); omega⟩
  | i + 1 => by
    have k := lpi_b (e := e) c i
    by_cases q : (lpi T o fs n e i s).1 (sm n e + i)
    · rw [lpi_y q]; omega
    · rw [lpi_n q]
      show (0 ≤ (lpi T o fs n e i s).2.2 + ifp (RGx T o n ((fs e).toNat, (i : Int))) 1 0 ∧ (lpi T o fs n e i s).2.2 + ifp (RGx T o n ((fs e).toNat, (i : Int))) 1 0 ≤ (lpi T o fs n e i s).2.1 + 1) ∧ (lpi T o fs n e i s).2.1 + 1 ≤ s.2.1 + ((i + 1 : Nat) : Int)
      by_cases r : RGx T o n ((fs e).toNat, (i : Int))
      · rw [ifp_t r]; omega
      · rw [ifp_f r]; omega
theorem lpe_b (f : ∀ e, e < 18 → 0 ≤ n e) : ∀ e : Nat, e ≤ 18 → (0 ≤ (lpe T o fs n e).2.2 ∧ (lpe T o fs n e).2.2 ≤ (lpe T o fs n e).2.1) ∧ (lpe T o fs n e).2.1 ≤ sm n e
  | 0, _ => ⟨⟨Int.le_refl 0, Int.le_refl 0⟩, Int.le_refl 0⟩
  | e + 1, he => by
    have k := lpe_b f e (by omega)
    have q := lpi_b (T := T) (o := o) (fs := fs) (n := n) (e := e) k.1 (n e).toNat
    have n0 := f e (by omega)
    rw [sm_s]
    refine ⟨q.1, ?_⟩
    have := q.2
    show (lpi T o fs n e (n e).toNat (lpe T o fs n e)).2.1 ≤ _
    omega
/-- on the way round: the same for both -/
def CK (T o fs n : Nat → Int) (x : Nat × Int) (P0 P : Nat → Prop) (K : Nat) (c : Nat × Int) : Prop := c = tk T o n x K ∧ (∀ j, 0 < j → j < K → tk T o n x j ≠ x) ∧ ∀ k : Nat, P k ↔ P0 k ∨ ∃ j, j < K ∧ nu T fs n (tk T o n x j) = k
theorem CK_0 {x c : Nat × Int} {P0 P : Nat → Prop} {K : Nat} (hK : K = 0) (hc : c = x) (hP : ∀ k, P k ↔ P0 k) : CK T o fs n x P0 P K c := by
  subst hK
  exact ⟨hc, fun j h1 h2 => absurd h2 (by omega), fun k => (hP k).trans ⟨Or.inl, fun q => q.elim id (fun ⟨j, h, _⟩ => absurd h (by omega))⟩⟩
theorem CK_s {x c c' : Nat × Int} {P0 P P' : Nat → Prop} {K K' : Nat} {g : Int} (k : CK T o fs n x P0 P K c) (nb : K = 0 ∨ c ≠ x) (hg : g = nu T fs n c) (g0 : 0 ≤ g) (hP : ∀ k, P' k ↔ P k ∨ k = g.toNat) (hc : c' = gg T n (vv T o n c)) (hK : K' = K + 1) : CK T o fs n x P0 P' K' c' := by
  obtain ⟨k1, k2, k3⟩ := k
  subst hK
  refine ⟨by rw [hc, k1]; rfl, fun j h1 h2 => ?_, fun k => ?_⟩
  · by_cases d : j < K
    · exact k2 j h1 d
    · rw [show j = K by omega, ← k1]
      exact nb.resolve_left (by omega)
  · rw [hP, k3, or_assoc]
    apply or_congr_right
    constructor
    · rintro (⟨j, h1, h2⟩ | h)
      · exact ⟨j, by omega, h2⟩
      · exact ⟨K, by omega, by rw [← k1, ← hg, h]; omega⟩
    · rintro ⟨j, h1, h2⟩
      by_cases d : j < K
      · exact Or.inl ⟨j, d, h2⟩
      · right
        rw [show j = K by omega, ← k1, ← hg] at h2
        omega
theorem CK_e {x c : Nat × Int} {P0 P : Nat → Prop} {K : Nat} (k : CK T o fs n x P0 P K c) (hK : 0 < K) (hc : c = x) : tk T o n x K = x ∧ ∀ k : Nat, P k ↔ P0 k ∨ VX T o fs n x k := by
  obtain ⟨k1, k2, k3⟩ := k
  have e : tk T o n x K = x := by rw [← k1, hc]
  exact ⟨e, fun k => (k3 k).trans (or_congr_right (tk_E hK e (fun y => nu T fs n y = k)))⟩
/-- the hands so far -/
def CH (T o n : Nat → Int) (x : Nat × Int) (K : Nat) (on off : Int) : Prop := (on = 1 ↔ ∃ j, j < K ∧ ¬ hdx T o n (tk T o n x j)) ∧ (off = 1 ↔ ∃ j, j < K ∧ hdx T o n (tk T o n x j))
theorem ex_s {P : Nat → Prop} {K K' : Nat} (hK : K' = K + 1) : (∃ j, j < K' ∧ P j) ↔ (∃ j, j < K ∧ P j) ∨ P K := by
  subst hK
  constructor
  · rintro ⟨j, h1, h2⟩
    by_cases d : j < K
    · exact Or.inl ⟨j, d, h2⟩
    · right; rw [show K = j by omega]; exact h2
  · rintro (⟨j, h1, h2⟩ | h)
    · exact ⟨j, by omega, h2⟩
    · exact ⟨K, by omega, h⟩
theorem CH_0 {x : Nat × Int} {K : Nat} {on off : Int} (hK : K = 0) (h1 : on ≠ 1) (h2 : off ≠ 1) : CH T o n x K on off := by
  subst hK
  exact ⟨⟨fun q => absurd q h1, fun ⟨j, h, _⟩ => absurd h (by omega)⟩, ⟨fun q => absurd q h2, fun ⟨j, h, _⟩ => absurd h (by omega)⟩⟩
/-- a ring by the hands of one round -/
theorem RG_e {x : Nat × Int} {K : Nat} {on off : Int} (hK : 0 < K) (e : tk T o n x K = x) (h : CH T o n x K on off) : RGx T o n x ↔ ¬ (on = 1 ∧ off = 1) := by
  unfold RGx
  rw [h.1, h.2, tk_E hK e (fun y => ¬ hdx T o n y), tk_E hK e (fun y => hdx T o n y), and_comm]
theorem CH_1 {x : Nat × Int} {K : Nat} {on off : Int} (hK : 0 < K) (h : CH T o n x K on off) : on = 1 ∨ off = 1 := by
  by_cases c : hdx T o n (tk T o n x 0)
  · exact Or.inr (h.2.mpr ⟨0, hK, c⟩)
  · exact Or.inl (h.1.mpr ⟨0, hK, c⟩)
/-- come upon a strand that was passed: back at the start -/
theorem tk_mul {x : Nat × Int} {N : Nat} (e : tk T o n x N = x) : ∀ q : Nat, tk T o n x (N * q) = x
  | 0 => rfl
  | q + 1 => by rw [Nat.mul_succ, tk_a, tk_mul e q, e]
theorem tk_back (h : WT m E T o fs) (f : FT m.toNat (vT T) n) {x : Nat × Int} (v : vd m T n x) : ∀ j d : Nat, tk T o n x (d + j) = tk T o n x j → tk T o n x d = x
  | 0, d, q => q
  | j + 1, d, q => tk_back h f v j d (tk_b h f v q)
theorem nu_b (h : WT m E T o fs) (f : FT m.toNat (vT T) n) {x : Nat × Int} (v : vd m T n x) : 0 ≤ nu T fs n x ∧ nu T fs n x < sm n 18 := by
  obtain ⟨v1, v2, v3⟩ := v
  have m0 := h.m0
  exact sm_b f.1 (h.lt _ (by omega)) (by split <;> omega) (by split <;> omega)
theorem CK_w (h : WT m E T o fs) (f : FT m.toNat (vT T) n) {x c : Nat × Int} (v : vd m T n x) {P0 P : Nat → Prop} {K : Nat} (k : CK T o fs n x P0 P K c) (cl : CLV m T o fs n (fun g => P0 g.toNat)) (nx : ¬ P0 (nu T fs n x).toNat) (q : P (nu T fs n c).toNat) : 0 < K ∧ c = x := by
  obtain ⟨k1, k2, k3⟩ := k
  have vK := tk_v h f v K
  have nK := nu_b h f vK
  rw [k1] at q
  rcases (k3 _).mp q with r | ⟨j, h1, h2⟩
  · exfalso
    apply nx
    obtain ⟨N, hN, _, eN⟩ := tk_ex h f v
    have z := cl _ vK r (N * K - K)
    have le : K ≤ N * K := Nat.le_mul_of_pos_left K hN
    rw [← tk_a, show K + (N * K - K) = N * K by omega, tk_mul eN] at z
    exact z
  · have nj := nu_b h f (tk_v h f v j)
    rw [show (((nu T fs n (tk T o n x K)).toNat : Nat) : Int) = nu T fs n (tk T o n x K) by omega] at h2
    have e : tk T o n x K = tk T o n x j := by
      rcases nu_i (o := o) h f.1 vK (tk_v h f v j) h2.symm with d | d
      · exact d
      · have := tk_r h f v (K - j) j
        rw [show j + (K - j) = K by omega] at this
        exact absurd d this
    have b : tk T o n x (K - j) = x := tk_back h f v j (K - j) (by rw [show K - j + j = K by omega]; exact e)
    by_cases d : j = 0
    · subst d
      exact ⟨h1, by rw [k1]; exact e⟩
    · exact absurd b (k2 (K - j) (by omega) (by omega))
theorem CK_nb {x c : Nat × Int} {P0 P : Nat → Prop} {K : Nat} (k : CK T o fs n x P0 P K c) (g0 : 0 ≤ nu T fs n x) (q : ¬ P (nu T fs n c).toNat) : K = 0 ∨ c ≠ x := by
  by_cases d : K = 0
  · exact Or.inl d
  · right
    intro e
    apply q
    rw [e]
    exact (k.2.2 _).mpr (Or.inr ⟨0, by omega, by show nu T fs n x = _; omega⟩)
/-- a state of the count: which are passed, how many, how many rings -/
def LPS (n : Nat → Int) (s : LSt) (P : Nat → Prop) (L R : Int) : Prop := (∀ k : Nat, (k : Int) < sm n 18 → (P k ↔ s.1 k)) ∧ L = s.2.1 ∧ R = s.2.2
theorem LP_0 {P : Nat → Prop} {L R : Int} (h : ∀ k : Nat, (k : Int) < sm n 18 → ¬ P k) (hL : L = 0) (hR : R = 0) : LPS n (lpe T o fs n 0) P L R := ⟨fun k hk => ⟨fun q => absurd q (h k hk), fun q => absurd q id⟩, hL, hR⟩
theorem LP_y {s : LSt} {P : Nat → Prop} {L R : Int} {e i i' : Nat} (l : LPS n (lpi T o fs n e i s) P L R) (h0 : 0 ≤ sm n e + i ∧ sm n e + i < sm n 18) (p : P (sm n e + i).toNat) (hi : i' = i + 1) : LPS n (lpi T o fs n e i' s) P L R := by
  subst hi
  have q := (l.1 _ (by omega)).mp p
  rw [show (((sm n e + i).toNat : Nat) : Int) = sm n e + i by omega] at q
  rw [lpi_y q]
  exact l
theorem LP_n {s : LSt} {P P' : Nat → Prop} {L R L' R' : Int} {e i i' : Nat} (l : LPS n (lpi T o fs n e i s) P L R) (h0 : 0 ≤ sm n e + i ∧ sm n e + i < sm n 18) (p : ¬ P (sm n e + i).toNat) (hi : i' = i + 1) (hP : ∀ k : Nat, (k : Int) < sm n 18 → (P' k ↔ P k ∨ VX T o fs n ((fs e).toNat, (i : Int)) k)) (hL : L' = L + 1) (hR : (R' = R + 1 ∧ RGx T o n ((fs e).toNat, (i : Int))) ∨ (R' = R ∧ ¬ RGx T o n ((fs e).toNat, (i : Int)))) : LPS n (lpi T o fs n e i' s) P' L' R' := by
  subst hi
  have q : ¬ (lpi T o fs n e i s).1 (sm n e + i) := fun q => p ((l.1 _ (by omega)).mpr (by rw [show (((sm n e + i).toNat : Nat) : Int) = sm n e + i by omega]; exact q))
  rw [lpi_n q]
  obtain ⟨l1, l2, l3⟩ := l
  refine ⟨fun k hk => (hP k hk).trans (or_congr_left (l1 k hk)), by rw [hL, l2]; rfl, ?_⟩
  show R' = (lpi T o fs n e i s).2.2 + ifp (RGx T o n ((fs e).toNat, (i : Int))) 1 0
  rcases hR with ⟨a, b⟩ | ⟨a, b⟩
  · rw [ifp_t b, a, l3]
  · rw [ifp_f b, a, l3, Int.add_zero]
theorem LP_r {P : Nat → Prop} {L R : Int} {e i : Nat} (f : ∀ e, e < 18 → 0 ≤ n e) (he : e < 18) (l : LPS n (lpi T o fs n e i (lpe T o fs n e)) P L R) : 0 ≤ R ∧ R ≤ L ∧ L ≤ sm n e + i := by
  have a := lpe_b (T := T) (o := o) (fs := fs) f e (by omega)
  have b := lpi_b (T := T) (o := o) (fs := fs) (n := n) (e := e) a.1 i
  rw [l.2.1, l.2.2]
  have := b.1; have := b.2; have := a.2
  omega
theorem LP_e {P : Nat → Prop} {L R : Int} {e e' i : Nat} (l : LPS n (lpi T o fs n e i (lpe T o fs n e)) P L R) (hi : i = (n e).toNat) (he : e' = e + 1) : LPS n (lpe T o fs n e') P L R := by
  subst hi he
  exact l
theorem CLV_P (h : WT m E T o fs) (f : FT m.toNat (vT T) n) {s : LSt} {P : Nat → Prop} {L R : Int} (l : LPS n s P L R) (c : CLV m T o fs n s.1) : CLV m T o fs n (fun g => P g.toNat) := by
  intro y vy q k
  have b := nu_b h f vy
  have b2 := nu_b h f (tk_v h f vy k)
  have q := (l.1 _ (by omega)).mp q
  rw [show (((nu T fs n y).toNat : Nat) : Int) = nu T fs n y by omega] at q
  refine (l.1 _ (by omega)).mpr ?_
  rw [show (((nu T fs n (tk T o n y k)).toNat : Nat) : Int) = nu T fs n (tk T o n y k) by omega]
  exact c y vy q k
end
/-! like grounds and like numbers give like loops -/
section
variable {m E : Int} {T o fs n T' o' fs' n' : Nat → Int}
def GE (m E : Int) (T o fs n T' o' fs' n' : Nat → Int) : Prop := (∀ s : Nat, (s : Int) < 3 * m → T s = T' s ∧ o s = o' s) ∧ ∀ e : Nat, (e : Int) < E → fs e = fs' e ∧ n e = n' e
theorem GE_n (h : WT m E T o fs) (g : GE m E T o fs n T' o' fs' n') {s : Nat} (hs : (s : Int) < 3 * m) : vT T s = vT T' s ∧ n (vT T s) = n' (vT T' s) := by
  have e : vT T s = vT T' s := by show (T s).toNat = (T' s).toNat; rw [(g.1 s hs).1]
  have t := h.tE s hs
  refine ⟨e, ?_⟩
  rw [← e]
  exact (g.2 (vT T s) (by show (((T s).toNat : Nat) : Int) < E; omega)).2
theorem vv_c (h : WT m E T o fs) (g : GE m E T o fs n T' o' fs' n') {x : Nat × Int} (v : vd m T n x) : vv T o n x = vv T' o' n' x := by
  unfold vv
  rw [(g.1 x.1 v.1).2, (GE_n h g v.1).2]
theorem bh_lt3 {s : Nat} {m : Int} (h : (s : Int) < 3 * m) : ((bh s : Nat) : Int) < 3 * m := by unfold bh; split <;> omega
theorem ah_lt3 {s : Nat} {m : Int} (h : (s : Int) < 3 * m) : ((ah s : Nat) : Int) < 3 * m := by unfold ah; split <;> omega
theorem gg_c (h : WT m E T o fs) (g : GE m E T o fs n T' o' fs' n') {x : Nat × Int} (v : vd m T n x) : gg T n x = gg T' n' x := by
  unfold gg
  rw [(GE_n h g v.1).2, (GE_n h g (ah_lt3 v.1)).2, (GE_n h g (bh_lt3 v.1)).2]
theorem hdx_c (h : WT m E T o fs) (g : GE m E T o fs n T' o' fs' n') {x : Nat × Int} (v : vd m T n x) : hdx T o n x ↔ hdx T' o' n' x := by
  have w := (vv_v h v).1
  unfold hdx hcx
  rw [← vv_c h g v, (GE_n h g w.1).2, (GE_n h g (ah_lt3 w.1)).2, (GE_n h g (bh_lt3 w.1)).2]
theorem tk_c (h : WT m E T o fs) (f : FT m.toNat (vT T) n) (g : GE m E T o fs n T' o' fs' n') {x : Nat × Int} (v : vd m T n x) : ∀ k, tk T o n x k = tk T' o' n' x k
  | 0 => rfl
  | k + 1 => by
    have vk := tk_v h f v k
    show gg T n (vv T o n (tk T o n x k)) = gg T' n' (vv T' o' n' (tk T' o' n' x k))
    rw [gg_c h g (vv_v h vk).1, vv_c h g vk, tk_c h f g v k]
theorem sm_g (g : GE m E T o fs n T' o' fs' n') {e : Nat} (he : (e : Int) ≤ E) : sm n e = sm n' e := sm_c e (fun j hj => (g.2 j (by omega)).2)
theorem nu_c (h : WT m E T o fs) (g : GE m E T o fs n T' o' fs' n') {x : Nat × Int} (v : vd m T n x) : nu T fs n x = nu T' fs' n' x := by
  obtain ⟨e1, e2⟩ := GE_n h g v.1
  have t := h.tE x.1 v.1
  have te : ((vT T x.1 : Nat) : Int) < E := by show (((T x.1).toNat : Nat) : Int) < E; omega
  unfold nu
  rw [e2, sm_g g (by omega), (g.2 _ te).1, e1]
theorem VX_c (h : WT m E T o fs) (f : FT m.toNat (vT T) n) (g : GE m E T o fs n T' o' fs' n') {x : Nat × Int} (v : vd m T n x) : VX T o fs n x = VX T' o' fs' n' x := by
  funext y
  apply propext
  unfold VX
  constructor <;> rintro ⟨k, q⟩ <;> refine ⟨k, ?_⟩
  · rw [← tk_c h f g v, ← nu_c h g (tk_v h f v k)]; exact q
  · rw [nu_c h g (tk_v h f v k), tk_c h f g v]; exact q
theorem RG_c (h : WT m E T o fs) (f : FT m.toNat (vT T) n) (g : GE m E T o fs n T' o' fs' n') {x : Nat × Int} (v : vd m T n x) : RGx T o n x ↔ RGx T' o' n' x := by
  unfold RGx
  have a : ∀ k, hdx T o n (tk T o n x k) ↔ hdx T' o' n' (tk T' o' n' x k) := fun k => by rw [← tk_c h f g v]; exact hdx_c h g (tk_v h f v k)
  rw [show (∃ k, hdx T o n (tk T o n x k)) ↔ ∃ k, hdx T' o' n' (tk T' o' n' x k) from ⟨fun ⟨k, q⟩ => ⟨k, (a k).mp q⟩, fun ⟨k, q⟩ => ⟨k, (a k).mpr q⟩⟩, show (∃ k, ¬ hdx T o n (tk T o n x k)) ↔ ∃ k, ¬ hdx T' o' n' (tk T' o' n' x k) from ⟨fun ⟨k, q⟩ => ⟨k, fun r => q ((a k).mpr r)⟩, fun ⟨k, q⟩ => ⟨k, fun r => q ((a k).mp r)⟩⟩]
theorem lpi_c (h : WT m E T o fs) (f : FT m.toNat (vT T) n) (g : GE m E T o fs n T' o' fs' n') {e : Nat} (he : (e : Int) < E) {s : LSt} : ∀ i : Nat, (i : Int) ≤ n e → lpi T o fs n e i s = lpi T' o' fs' n' e i s
  | 0, _ => rfl
  | i + 1, hi => by
    have k := lpi_c h f g he (s := s) i (by omega)
    have v : vd m T n ((fs e).toNat, (i : Int)) := vd_st h he (by omega) (by omega)
    have es := sm_g g (e := e) (by omega)
    by_cases q : (lpi T o fs n e i s).1 (sm n e + i)
    · rw [lpi_y q, lpi_y (by rw [← k, ← es]; exact q), k]
    · rw [lpi_n q, lpi_n (by rw [← k, ← es]; exact q), ← k]
      unfold lpn
      rw [VX_c h f g v, (g.2 e he).1]
      rw [(g.2 e he).1] at v
      have r := RG_c h f g v
      by_cases c : RGx T o n ((fs' e).toNat, (i : Int))
      · rw [ifp_t c, ifp_t (r.mp c)]
      · rw [ifp_f c, ifp_f (fun d => c (r.mpr d))]
theorem lpe_c (h : WT m E T o fs) (f : FT m.toNat (vT T) n) (g : GE m E T o fs n T' o' fs' n') : ∀ e : Nat, (e : Int) ≤ E → lpe T o fs n e = lpe T' o' fs' n' e
  | 0, _ => rfl
  | e + 1, he => by
    have m1 := h.hm
    have m2 := h.hE
    have n0 := f.1 e (by omega)
    show lpi T o fs n e (n e).toNat (lpe T o fs n e) = lpi T' o' fs' n' e (n' e).toNat (lpe T' o' fs' n' e)
    rw [lpi_c h f g (by omega) (n e).toNat (by omega), lpe_c h f g e (by omega), (g.2 e (by omega)).2]
end
end
section
/-! the class's tracer, step by step -/
theorem pbit_o2 {x y u b : Int} {j : Nat} (h1 : Int64.ofInt x = Int64.ofInt y ||| Int64.ofInt u) (h2 : Int64.ofInt u = Int64.ofInt 1 <<< ((Int32.ofInt b).toInt64 &&& 63)) (b0 : 0 ≤ b) (b1 : b ≤ 63) (h : pbit y j ∨ j = b.toNat) : pbit x j := by
  unfold pbit at *
  rw [h1, h2]
  have e := shl_1 ⟨b.toNat, by omega⟩
  have eb : ((b.toNat : Nat) : Int) = b := by omega
  dsimp only at e
  rw [eb] at e
  rw [show (Int64.ofInt y ||| Int64.ofInt 1 <<< ((Int32.ofInt b).toInt64 &&& 63)).toBitVec = (Int64.ofInt y).toBitVec ||| (Int64.ofInt 1 <<< ((Int32.ofInt b).toInt64 &&& 63)).toBitVec from rfl, e, BitVec.getLsbD_or, Bool.or_eq_true]
  rcases h with h | h
  · exact Or.inl h
  · right
    subst h
    rw [BitVec.getLsbD_twoPow]
    simp
    omega
theorem pbit_s2 {x y u b : Int} (h1 : Int64.ofInt u = Int64.ofInt y >>> ((Int32.ofInt b).toInt64 &&& 63)) (h2 : Int64.ofInt x = Int64.ofInt u &&& Int64.ofInt 1) (b0 : 0 ≤ b) (b1 : b ≤ 63) (p : pbit y b.toNat) : ¬ x = 0 := by
  unfold pbit at p
  intro h
  subst h
  have e := sh_63 ⟨b.toNat, by omega⟩
  have eb : ((b.toNat : Nat) : Int) = b := by omega
  dsimp only at e
  rw [eb] at e
  have k : (Int64.ofInt 0).toBitVec = (Int64.ofInt y).toBitVec.sshiftRight b.toNat &&& 1#64 := by
    rw [h2, h1]
    show (Int64.ofInt y).toBitVec.sshiftRight ((((Int32.ofInt b).toInt64 &&& 63)).toBitVec.smod 64).toNat &&& 1#64 = _
    rw [e]
  have k2 := congrArg (fun z => BitVec.getLsbD z 0) k
  rw [BitVec.getLsbD_and, BitVec.getLsbD_sshiftRight, show b.toNat + 0 = b.toNat from rfl, p, show (Int64.ofInt 0).toBitVec = 0#64 by decide] at k2
  have hb : b.toNat < 64 := by omega
  simp [hb] at k2
theorem PB_i {w w' : mZ} {v x u : Int} (hq : w' = mu w 5 (v / 64).toNat x) (h38 : Int64.ofInt x = Int64.ofInt (w 5 (v / 64).toNat) ||| Int64.ofInt u) (h37 : Int64.ofInt u = Int64.ofInt 1 <<< ((Int32.ofInt (v % 64)).toInt64 &&& 63)) (v0 : 0 ≤ v) : ∀ k, PB w' k ↔ PB w k ∨ k = v.toNat := by
  intro k
  refine ⟨PB_w hq h38 h37 v0 k, fun p => ?_⟩
  unfold PB at *
  rw [hq]
  by_cases c : k / 64 = (v / 64).toNat
  · rw [c, mu_eq]
    refine pbit_o2 h38 h37 (by omega) (by omega) ?_
    rcases p with p | p
    · left; rw [c] at p; exact p
    · right; omega
  · rw [mu_ne (by omega)]
    rcases p with p | p
    · exact p
    · exfalso; omega
theorem PB_s {w : mZ} {v x u : Int} (h13 : Int64.ofInt u = Int64.ofInt (w 5 (v / 64).toNat) >>> ((Int32.ofInt (v % 64)).toInt64 &&& 63)) (h15 : Int64.ofInt x = Int64.ofInt u &&& Int64.ofInt 1) (v0 : 0 ≤ v) (p : PB w v.toNat) : ¬ x = 0 := by
  unfold PB at p
  rw [show v.toNat / 64 = (v / 64).toNat by omega, show v.toNat % 64 = (v % 64).toNat by omega] at p
  exact pbit_s2 h13 h15 (by omega) (by omega) p
theorem PB_e {w w' : mZ} (h : ∀ j, w' 5 j = w 5 j) (k : Nat) : PB w' k ↔ PB w k := by
  unfold PB; rw [h]
abbrev cuc (z : mZ) : Nat × Int := ((z 4 9).toNat, z 4 10)
theorem VS_vd {m : Int} {T n : Nat → Int} {s i : Int} (v : VS m T n s i) : vd m T n (s.toNat, i) := ⟨by have := v.1; have := v.2.1; show ((s.toNat : Nat) : Int) < 3 * m; omega, v.2.2.1, v.2.2.2⟩
theorem SF_ {m E : Int} {T o fs n : Nat → Int} (h : WT m E T o fs) {s i ci ca cb b x : Int} (v : VS m T n s i) (hci : ci = n (T (o s.toNat).toNat).toNat) (hb : (o s.toNat % 3 = 0 → b = o s.toNat + 2) ∧ (o s.toNat % 3 ≠ 0 → b = o s.toNat - 1)) (hx : (o s.toNat % 3 = 2 → x = o s.toNat - 2) ∧ (o s.toNat % 3 ≠ 2 → x = o s.toNat + 1)) (hca : ca = n (T b.toNat).toNat) (hcb : cb = n (T x.toNat).toNat) :
    (∀ s' i' : Int, ci - 1 - i < (ca + ci - cb) / 2 → s' = b → i' = ca - 1 - (ci - 1 - i) → (s'.toNat, i') = gg T n (vv T o n (s.toNat, i)) ∧ hdx T o n (s.toNat, i)) ∧ (∀ s' i' : Int, (ca + ci - cb) / 2 ≤ ci - 1 - i → s' = x → i' = ci - 1 - (ci - 1 - i) → (s'.toNat, i') = gg T n (vv T o n (s.toNat, i)) ∧ ¬ hdx T o n (s.toNat, i)) := by
  obtain ⟨v1, v2, v3, v4⟩ := v
  have hs : ((s.toNat : Nat) : Int) < 3 * m := by omega
  have l := h.oL s.toNat hs
  have hbq : b.toNat = ah (o s.toNat).toNat := by have := ah_cases (o s.toNat).toNat; omega
  have hxq : x.toNat = bh (o s.toNat).toNat := by have := bh_cases (o s.toNat).toNat; omega
  have e1 : n (vT T (o s.toNat).toNat) = ci := hci.symm
  have e2 : n (vT T (ah (o s.toNat).toNat)) = ca := by rw [hca, hbq]
  have e3 : n (vT T (bh (o s.toNat).toNat)) = cb := by rw [hcb, hxq]
  have e4 : n (vT T s.toNat) = ci := by show n (T s.toNat).toNat = ci; rw [hci, h.oT s.toNat hs]
  have ev : vv T o n (s.toNat, i) = ((o s.toNat).toNat, ci - 1 - i) := by
    show ((o s.toNat).toNat, n (vT T s.toNat) - 1 - i) = _
    rw [e4]
  have eh : hdx T o n (s.toNat, i) ↔ ci - 1 - i < (ca + ci - cb) / 2 := by
    unfold hdx hcx
    rw [ev]
    show ci - 1 - i < (n (vT T (ah (o s.toNat).toNat)) + n (vT T (o s.toNat).toNat) - n (vT T (bh (o s.toNat).toNat))) / 2 ↔ _
    rw [e1, e2, e3]
  have eg : gg T n (vv T o n (s.toNat, i)) = if ci - 1 - i < (ca + ci - cb) / 2 then (b.toNat, ca - 1 - (ci - 1 - i)) else (x.toNat, ci - 1 - (ci - 1 - i)) := by
    rw [ev]
    show (if ci - 1 - i < (n (vT T (ah (o s.toNat).toNat)) + n (vT T (o s.toNat).toNat) - n (vT T (bh (o s.toNat).toNat))) / 2 then (ah (o s.toNat).toNat, n (vT T (ah (o s.toNat).toNat)) - 1 - (ci - 1 - i)) else (bh (o s.toNat).toNat, n (vT T (o s.toNat).toNat) - 1 - (ci - 1 - i))) = _
    rw [e1, e2, e3, hbq, hxq]
  constructor
  · intro s' i' c h1 h2
    rw [eg, if_pos c, h1, h2]
    exact ⟨rfl, eh.mpr c⟩
  · intro s' i' c h1 h2
    rw [eg, if_neg (by omega), h1, h2]
    exact ⟨rfl, fun q => absurd (eh.mp q) (by omega)⟩
theorem NC_ {z : mZ} {t : Nat} (hl : TL z t) {s i k : Int} (s0 : 0 ≤ s) (he : (z (t + 1) s.toNat).toNat < 18) (hk : k = if s = z (t + 5) (z (t + 1) s.toNat).toNat then i else z 7 (z (t + 1) s.toNat).toNat - 1 - i) : z 6 (z (t + 1) s.toNat).toNat + k = nu (z (t + 1)) (z (t + 5)) (z 7) (s.toNat, i) := by
  rw [hl.2.1 _ he, hk]
  show _ = sm (z 7) (z (t + 1) s.toNat).toNat + (if ((s.toNat : Nat) : Int) = z (t + 5) (z (t + 1) s.toNat).toNat then i else z 7 (z (t + 1) s.toNat).toNat - 1 - i)
  rw [show ((s.toNat : Nat) : Int) = s by omega]
/-- not back after all strands: that cannot be -/
theorem CK_x {m E : Int} {T o fs n : Nat → Int} (h : WT m E T o fs) (f : FT m.toNat (vT T) n) {x c : Nat × Int} (v : vd m T n x) {P0 P : Nat → Prop} {K : Nat} (k : CK T o fs n x P0 P K c) (nb : K = 0 ∨ c ≠ x) (hK : sm n 18 ≤ K) : False := by
  obtain ⟨k1, k2, k3⟩ := k
  have q := tk_n h f v (k := K + 1) (fun j h1 h2 => by
    by_cases d : j < K
    · exact k2 j h1 d
    · rw [show j = K by omega, ← k1]
      exact nb.resolve_left (by omega))
  omega
/-! the reference's -/
theorem GTh {z : mZ} (h : RW z) (f : FT (z 225 26).toNat (vT (z 235)) (nR z)) {s i a near : Int} (v : vdR z (s.toNat, i)) (ha : a.toNat = ah s.toNat) (hn : 0 ≤ z 243 (z 235 a.toNat).toNat + z 243 (z 235 (bh a.toNat)).toNat - z 243 (z 235 (ah a.toNat)).toNat → near = (z 243 (z 235 a.toNat).toNat + z 243 (z 235 (bh a.toNat)).toNat - z 243 (z 235 (ah a.toNat)).toNat) / 2) : hcx (z 235) (nR z) (s.toNat, i) ↔ i < near := by
  have m0 := WT.m0 h
  have v1 : ((s.toNat : Nat) : Int) < 3 * z 225 26 := v.1
  have hs : s.toNat < 3 * (z 225 26).toNat := by omega
  have la := ah_lt hs; have lb := bh_lt hs
  have e1 := nR_T h (s := s.toNat) (by omega)
  have e2 := nR_T h (s := ah s.toNat) (by omega)
  have e3 := nR_T h (s := bh s.toNat) (by omega)
  obtain ⟨t1, t2, t3, t4⟩ := f.2 s.toNat hs
  rw [ha, bh_ah, ah_ah, ← e1, ← e2, ← e3] at hn
  have hn := hn (by omega)
  unfold hcx
  show i < (nR z (vT (z 235) (ah s.toNat)) + nR z (vT (z 235) s.toNat) - nR z (vT (z 235) (bh s.toNat))) / 2 ↔ i < near
  rw [hn]
theorem WP_i {z z' : mZ} {v : Int} (hq : z' = mu z 245 v.toNat 1) : ∀ k, WP z' k ↔ WP z k ∨ k = v.toNat := by
  intro k
  unfold WP
  rw [hq]
  by_cases c : k = v.toNat
  · subst c
    rw [mu_eq]
    exact ⟨fun _ => Or.inr rfl, fun _ => by omega⟩
  · rw [mu_ne (by omega)]
    exact ⟨Or.inl, fun q => q.resolve_right c⟩
theorem WP_e {z z' : mZ} (h : z' 245 = z 245) (k : Nat) : WP z' k ↔ WP z k := by unfold WP; rw [h]
end
