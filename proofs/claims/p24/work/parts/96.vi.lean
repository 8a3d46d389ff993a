/-! methods, printed by wip/tools/vcg.py -/
/-- LoopGroundModel layOver -/
abbrev S_176y  : mS := [(241, 241, 0, 17), (240, 240, 0, 35)]
abbrev E_176y  (z0 w0 : mZ) (x y tx it mt tt ct : Option Nat) : mZ → mZ → mP → Prop := fun z w p => p = (pq x y tx it mt tt ct) ∧ (RW z ∧ FLr z)
theorem m_176y {d : Nat} {z0 w0 : mZ} {x y tx it mt tt ct : Option Nat}  (hz : rz z0) (hw : rw_ w0) (hly : LY (z0 225 26) (rE z0) (z0 235)) : wc (d + 1) 176 [.ref 225] (mk z0 w0 (pq x y tx it mt tt ct)) (poV S_176y z0 w0 (E_176y  z0 w0 x y tx it mt tt ct)) := by
  have hst : st_ S_176y z0 w0 z0 w0 := st_rf hz hw
  have hz19 := rd_225_26 hz
  have hm26 := rd_225_26 hz
  have hrE : rE z0 = 3 * z0 225 26 / 2 := rfl
  have key : ∀ N : Nat, (∀ (x1 : Int) (z w : mZ), 0 ≤ x1 ∧ x1 ≤ 18 → st_ S_176y z0 w0 z w → (∀ e : Nat, (e : Int) < x1 → z 241 e = -1) → 55 * (18 - x1) + 2142 < (N : Int) → wp_ (d) 176 3 none (2, [(0, .ref 225), (1, .int (Int32.ofInt x1))], [], mk z w (pq x y tx it mt tt ct)) (poV S_176y z0 w0 (E_176y  z0 w0 x y tx it mt tt ct))) ∧ (∀ (x1 : Int) (z w : mZ), 0 ≤ x1 ∧ x1 ≤ 36 → st_ S_176y z0 w0 z w → (LO (rE z0) (z0 235) (z 240) (z 241) x1) → (x1 ≤ 3 * z0 225 26) → 55 * (36 - x1) + 40 < (N : Int) → wp_ (d) 176 3 none (23, [(0, .ref 225), (1, .int (Int32.ofInt x1))], [], mk z w (pq x y tx it mt tt ct)) (poV S_176y z0 w0 (E_176y  z0 w0 x y tx it mt tt ct))) := by
    intro N
    induction N with
    | zero =>
      refine ⟨?_, ?_⟩
      · intro x1 z w
        intros; exfalso; omega
      · intro x1 z w
        intros; exfalso; omega
    | succ N ih =>
      obtain ⟨ih0, ih1⟩ := ih
      refine ⟨?_, ?_⟩
      · intro x1 z w  hx1 hst as1 hM
        refine r_ld (pc' := 3) rfl rfl rfl rfl ?_
        refine r_cb (pc' := 5) rfl (by decide) rfl ?_
        refine r_ige (pc' := 8) rfl rfl ⟨by omega, by omega⟩ ⟨by decide, by decide⟩ (fun hc20 => ?_) (fun hc20 => ?_)
        · skip
          refine r_c0 (pc' := 22) rfl rfl ?_
          refine r_st (pc' := 23) (lv' := [(1, _), (0, _)]) rfl rfl rfl rfl ?_
          exact w_lv (sub_c rfl (sub_c rfl sub_n)) rfl (ih1 0 z w ⟨by omega, by omega⟩ hst (by first | exact LO_0 (fun e he => as1 e (by omega)) | (rw [show z 240 = z 240 from funext fun i => rfl]; exact LO_a as1 (by omega) (e0 := (z0 235 x1.toNat).toNat) (by omega) (by omega) (fun j hj => by rw [hqa]; exact mu_ne (by omega)) (by rw [hqa]; exact mu_eq)) | (rw [show z 241 = z 241 from funext fun i => rfl]; exact LO_b hly as1 (by omega) (by omega) (e0 := (z0 235 x1.toNat).toNat) (by omega) (by omega) (fun j h1 h2 => by rw [hqc, mu_ne (by omega), hqb, mu_ne (by omega)]) (by rw [hqc, mu_ne (by omega), hqb, mu_eq]) (by rw [hqc]; exact mu_eq))) (by first | omega | assumption) (by omega))
        · skip
          refine r_ld (pc' := 9) rfl rfl rfl rfl ?_
          refine r_gr (b := 241) (pc' := 12) rfl rfl sh_225 rfl pp_225_30 ?_
          refine r_ld (pc' := 13) rfl rfl rfl rfl ?_
          refine r_c0 (pc' := 14) rfl rfl ?_
          refine r_is (pc' := 15) rfl rfl sh_241 rfl (by omega) (by omega) hst (inS_0 (by omega) (by omega) (by omega) (by omega)) (wr_241 ⟨by omega, by omega⟩) (fun z21 hq22 hs23 => ?_)
          have hqm := hq22
          refine r_inc (pc' := 18) (lv' := [(0, _)]) rfl rfl rfl rfl rfl ?_
          refine r_go rfl ?_
          exact w_lv (sub_c rfl (sub_c rfl sub_n)) rfl (ih0 (x1 + 1) z21 w ⟨by omega, by omega⟩ hs23 (by first | (intro e he; exfalso; omega) | (intro e he; rw [hqm]; by_cases c : e = x1.toNat; (subst c; exact mu_eq); (rw [mu_ne (by omega)]; exact as1 e (by omega)))) (by omega))
      · intro x1 z w  hx1 hst as1 as2 hM
        refine r_ld (pc' := 24) rfl rfl rfl rfl ?_
        refine r_c0 (pc' := 25) rfl rfl ?_
        refine r_ld (pc' := 26) rfl rfl rfl rfl ?_
        have hb24 := rd_225_26 hz
        refine r_gi (pc' := 29) rfl rfl sh_225 rfl (hst.2.2.1 _ _ (notS_c (by omega) (notS_c (by omega) notS_n))) ?_
        refine r_mul (pc' := 30) rfl rfl ?_
        refine r_ige (pc' := 33) rfl rfl ⟨by omega, by omega⟩ ⟨by omega, by omega⟩ (fun hc25 => ?_) (fun hc25 => ?_)
        · skip
          exact r_ret rfl (po_V hst ⟨rfl, (by refine ⟨?_, ?_⟩; (have k := LO_end hly as1 (by omega); unfold RW rE; rw [show z 225 26 = z0 225 26 from hst.2.2.1 _ _ (notS_c (by omega) (notS_c (by omega) (notS_n))), show z 235 = z0 235 from funext fun i => hst.2.2.1 _ _ (notS_c (by omega) (notS_c (by omega) (notS_n)))]; exact k); (intro e he; rw [show rE z = rE z0 from by show 3 * z 225 26 / 2 = 3 * z0 225 26 / 2; rw [show z 225 26 = z0 225 26 from hst.2.2.1 _ _ (notS_c (by omega) (notS_c (by omega) (notS_n)))]] at he; exact LO_fl hly as1 (by omega) e he))⟩)
        · skip
          refine r_ld (pc' := 34) rfl rfl rfl rfl ?_
          refine r_gr (b := 235) (pc' := 37) rfl rfl sh_225 rfl pp_225_18 ?_
          refine r_ld (pc' := 38) rfl rfl rfl rfl ?_
          have hb26 := rd_235 hz (i := x1.toNat) (by omega)
          refine r_ia (pc' := 39) rfl rfl sh_235 rfl (by omega) (by omega) (hst.2.2.1 _ _ (notS_c (by omega) (notS_c (by omega) notS_n))) ?_
          refine r_st (pc' := 40) (lv' := [(2, _), (0, _), (1, _)]) rfl rfl rfl rfl ?_
          have hE0 := hly.2.2.2.1 x1.toNat (by omega)
          refine r_ld (pc' := 41) rfl rfl rfl rfl ?_
          refine r_gr (b := 241) (pc' := 44) rfl rfl sh_225 rfl pp_225_30 ?_
          refine r_ld (pc' := 45) rfl rfl rfl rfl ?_
          have hb27 := rd_241 hst.1 (i := (z0 235 x1.toNat).toNat) (by omega)
          refine r_ia (pc' := 46) rfl rfl sh_241 rfl (by omega) (by omega) rfl ?_
          refine r_zge (pc' := 49) rfl rfl ⟨by omega, by omega⟩ (fun hc28 => ?_) (fun hc28 => ?_)
          · skip
            refine r_ld (pc' := 60) rfl rfl rfl rfl ?_
            have hlt := LO_lt as1 (e := (z0 235 x1.toNat).toNat) (by omega) (by omega)
            refine r_gr (b := 240) (pc' := 63) rfl rfl sh_225 rfl pp_225_29 ?_
            refine r_ld (pc' := 64) rfl rfl rfl rfl ?_
            refine r_ld (pc' := 65) rfl rfl rfl rfl ?_
            refine r_gr (b := 241) (pc' := 68) rfl rfl sh_225 rfl pp_225_30 ?_
            refine r_ld (pc' := 69) rfl rfl rfl rfl ?_
            refine r_ia (pc' := 70) rfl rfl sh_241 rfl (by omega) (by omega) rfl ?_
            refine r_is (pc' := 71) rfl rfl sh_240 rfl (by omega) (by omega) hst (inS_s (inS_0 (by omega) (by omega) (by omega) (by omega))) (wr_240 ⟨by omega, by omega⟩) (fun z29 hq30 hs31 => ?_)
            have hqb := hq30
            refine r_ld (pc' := 72) rfl rfl rfl rfl ?_
            refine r_gr (b := 240) (pc' := 75) rfl rfl sh_225 rfl pp_225_29 ?_
            refine r_ld (pc' := 76) rfl rfl rfl rfl ?_
            refine r_gr (b := 241) (pc' := 79) rfl rfl sh_225 rfl pp_225_30 ?_
            refine r_ld (pc' := 80) rfl rfl rfl rfl ?_
            refine r_ia (pc' := 81) rfl rfl sh_241 rfl (by omega) (by omega) ((congrFun (congrFun hq30 _) _).trans (mu_ne (by omega))) ?_
            refine r_ld (pc' := 82) rfl rfl rfl rfl ?_
            refine r_is (pc' := 83) rfl rfl sh_240 rfl (by omega) (by omega) hs31 (inS_s (inS_0 (by omega) (by omega) (by omega) (by omega))) (wr_240 ⟨by omega, by omega⟩) (fun z32 hq33 hs34 => ?_)
            have hqc := hq33
            refine r_inc (pc' := 86) (lv' := [(2, _), (0, _)]) rfl rfl rfl rfl rfl ?_
            refine r_go rfl ?_
            have hF35 : z32 241 = z 241 := (((congrFun hq33 _).trans (mu_fn (by omega))).trans ((congrFun hq30 _).trans (mu_fn (by omega))))
            exact w_lv (sub_c rfl (sub_c rfl sub_n)) rfl (ih1 (x1 + 1) z32 w ⟨by omega, by omega⟩ hs34 (by first | exact LO_0 (fun e he => as1 e (by omega)) | (rw [show z32 240 = z 240 from funext fun i => (((congrFun (congrFun hq33 _) _).trans (mu_ne (by omega))).trans ((congrFun (congrFun hq30 _) _).trans (mu_ne (by omega))))]; exact LO_a as1 (by omega) (e0 := (z0 235 x1.toNat).toNat) (by omega) (by omega) (fun j hj => by rw [hqa]; exact mu_ne (by omega)) (by rw [hqa]; exact mu_eq)) | (rw [show z32 241 = z 241 from funext fun i => (((congrFun (congrFun hq33 _) _).trans (mu_ne (by omega))).trans ((congrFun (congrFun hq30 _) _).trans (mu_ne (by omega))))]; exact LO_b hly as1 (by omega) (by omega) (e0 := (z0 235 x1.toNat).toNat) (by omega) (by omega) (fun j h1 h2 => by rw [hqc, mu_ne (by omega), hqb, mu_ne (by omega)]) (by rw [hqc, mu_ne (by omega), hqb, mu_eq]) (by rw [hqc]; exact mu_eq))) (by first | omega | assumption | (simp only [hF35]; assumption)) (by omega))
          · skip
            refine r_ld (pc' := 50) rfl rfl rfl rfl ?_
            refine r_gr (b := 241) (pc' := 53) rfl rfl sh_225 rfl pp_225_30 ?_
            refine r_ld (pc' := 54) rfl rfl rfl rfl ?_
            refine r_ld (pc' := 55) rfl rfl rfl rfl ?_
            refine r_is (pc' := 56) rfl rfl sh_241 rfl (by omega) (by omega) hst (inS_0 (by omega) (by omega) (by omega) (by omega)) (wr_241 ⟨by omega, by omega⟩) (fun z36 hq37 hs38 => ?_)
            have hqa := hq37
            refine r_go rfl ?_
            refine r_inc (pc' := 86) (lv' := [(2, _), (0, _)]) rfl rfl rfl rfl rfl ?_
            refine r_go rfl ?_
            have hF39 : z36 240 = z 240 := ((congrFun hq37 _).trans (mu_fn (by omega)))
            exact w_lv (sub_c rfl (sub_c rfl sub_n)) rfl (ih1 (x1 + 1) z36 w ⟨by omega, by omega⟩ hs38 (by first | exact LO_0 (fun e he => as1 e (by omega)) | (rw [show z36 240 = z 240 from funext fun i => ((congrFun (congrFun hq37 _) _).trans (mu_ne (by omega)))]; exact LO_a as1 (by omega) (e0 := (z0 235 x1.toNat).toNat) (by omega) (by omega) (fun j hj => by rw [hqa]; exact mu_ne (by omega)) (by rw [hqa]; exact mu_eq)) | (rw [show z36 241 = z 241 from funext fun i => ((congrFun (congrFun hq37 _) _).trans (mu_ne (by omega)))]; exact LO_b hly as1 (by omega) (by omega) (e0 := (z0 235 x1.toNat).toNat) (by omega) (by omega) (fun j h1 h2 => by rw [hqc, mu_ne (by omega), hqb, mu_ne (by omega)]) (by rw [hqc, mu_ne (by omega), hqb, mu_eq]) (by rw [hqc]; exact mu_eq))) (by first | omega | assumption | (simp only [hF39]; assumption)) (by omega))
  refine w_m rfl rfl ?_
  refine r_c0 (pc' := 1) rfl rfl ?_
  refine r_st (pc' := 2) (lv' := [(1, _), (0, _)]) rfl rfl rfl rfl ?_
  exact w_lv (sub_c rfl (sub_c rfl sub_n)) rfl ((key ((55 * (18 - 0) + 2142 : Int).toNat + 1)).1 0 z0 w0 ⟨by omega, by omega⟩ hst (by first | (intro e he; exfalso; omega) | (intro e he; rw [hqm]; by_cases c : e = x1.toNat; (subst c; exact mu_eq); (rw [mu_ne (by omega)]; exact as1 e (by omega)))) (by omega))
/-- LoopGroundModel turned -/
abbrev S_177b  : mS := []
abbrev E_177b (a0 : Int) (a1 : Int) (z0 w0 : mZ) (x y tx it mt tt ct : Option Nat) : Int → mZ → mZ → mP → Prop := fun v z w p => p = (pq x y tx it mt tt ct) ∧ z0 = z ∧ w0 = w ∧ 0 ≤ v ∧ v ≤ 35 ∧ ((a0 % 3 = 2 → v = a0 - 2) ∧ (a0 % 3 ≠ 2 → v = a0 + 1))
theorem m_177b {d : Nat} {z0 w0 : mZ} {x y tx it mt tt ct : Option Nat} (a0 : Int) (a1 : Int) (hz : rz z0) (hw : rw_ w0) (ha0 : 0 ≤ a0 ∧ a0 ≤ 35) (ha1 : 1 ≤ a1 ∧ a1 ≤ 1) : wc (d + 1) 177 [.int (Int32.ofInt a0), .int (Int32.ofInt a1)] (mk z0 w0 (pq x y tx it mt tt ct)) (poI S_177b z0 w0 (E_177b a0 a1 z0 w0 x y tx it mt tt ct)) := by
  have hst : st_ S_177b z0 w0 z0 w0 := st_rf hz hw
  refine w_m rfl rfl ?_
  refine r_ld (pc' := 1) rfl rfl rfl rfl ?_
  refine r_c0 (pc' := 2) rfl rfl ?_
  refine r_dv (pc' := 3) (v := a0 / 3) rfl rfl ⟨by omega, by omega⟩ ⟨by decide, by decide⟩ (by decide) (tdiv_n (by omega)) ?_
  refine r_c0 (pc' := 4) rfl rfl ?_
  refine r_mul (pc' := 5) rfl rfl ?_
  refine r_ld (pc' := 6) rfl rfl rfl rfl ?_
  refine r_c0 (pc' := 7) rfl rfl ?_
  refine r_rm (pc' := 8) (v := a0 % 3) rfl rfl ⟨by omega, by omega⟩ ⟨by decide, by decide⟩ (by decide) (tmod_n (by omega)) ?_
  refine r_ld (pc' := 9) rfl rfl rfl rfl ?_
  refine r_add (pc' := 10) rfl rfl ?_
  refine r_c0 (pc' := 11) rfl rfl ?_
  refine r_rm (pc' := 12) (v := ((a0 % 3) + a1) % 3) rfl rfl ⟨by omega, by omega⟩ ⟨by decide, by decide⟩ (by decide) (tmod_n (by omega)) ?_
  refine r_add (pc' := 13) rfl rfl ?_
  exact r_ri rfl (po_I hst ⟨by omega, by omega⟩ ⟨rfl, rfl, rfl, by omega, by omega, (by first | omega | assumption)⟩)
/-- LoopGroundModel point -/
abbrev S_179x  : mS := []
abbrev E_179x (a1 : Int) (a2 : Int) (z0 w0 : mZ) (x y tx it mt tt ct : Option Nat) : Int → mZ → mZ → mP → Prop := fun v z w p => p = (pq x y tx it mt tt ct) ∧ z0 = z ∧ w0 = w ∧ (-1) ≤ v ∧ v ≤ 35 ∧ ((0 ≤ a1 → a1 < z0 225 26 → 0 ≤ a2 → a2 ≤ 2 → v = z0 242 (3 * a1 + a2).toNat) ∧ ((a1 < 0 ∨ z0 225 26 ≤ a1 ∨ a2 < 0 ∨ 2 < a2) → v = -1))
theorem m_179x {d : Nat} {z0 w0 : mZ} {x y tx it mt tt ct : Option Nat} (a1 : Int) (a2 : Int) (hz : rz z0) (hw : rw_ w0) (ha1 : (-2147483648) ≤ a1 ∧ a1 ≤ 2147483647) (ha2 : (-2147483648) ≤ a2 ∧ a2 ≤ 2147483647) : wc (d + 1) 179 [.ref 225, .int (Int32.ofInt a1), .int (Int32.ofInt a2)] (mk z0 w0 (pq x y tx it mt tt ct)) (poI S_179x z0 w0 (E_179x a1 a2 z0 w0 x y tx it mt tt ct)) := by
  have hst : st_ S_179x z0 w0 z0 w0 := st_rf hz hw
  have hz7 := rd_225_26 hz
  refine w_m rfl rfl ?_
  refine r_ld (pc' := 1) rfl rfl rfl rfl ?_
  refine r_zlt (pc' := 4) rfl rfl ⟨by omega, by omega⟩ (fun hc8 => ?_) (fun hc8 => ?_)
  · skip
    refine r_c0 (pc' := 22) rfl rfl ?_
    refine r_go rfl ?_
    exact r_ri rfl (po_I hst ⟨by decide, by decide⟩ ⟨rfl, rfl, rfl, by omega, by omega, (by first | exact ⟨fun _ _ _ _ => rfl, fun q => by exfalso; omega⟩ | exact ⟨fun _ _ _ _ => by exfalso; omega, fun _ => rfl⟩)⟩)
  · skip
    refine r_ld (pc' := 5) rfl rfl rfl rfl ?_
    refine r_ld (pc' := 6) rfl rfl rfl rfl ?_
    have hb9 := rd_225_26 hz
    refine r_gi (pc' := 9) rfl rfl sh_225 rfl rfl ?_
    refine r_ige (pc' := 12) rfl rfl ⟨by omega, by omega⟩ ⟨by omega, by omega⟩ (fun hc10 => ?_) (fun hc10 => ?_)
    · skip
      refine r_c0 (pc' := 22) rfl rfl ?_
      refine r_go rfl ?_
      exact r_ri rfl (po_I hst ⟨by decide, by decide⟩ ⟨rfl, rfl, rfl, by omega, by omega, (by first | exact ⟨fun _ _ _ _ => rfl, fun q => by exfalso; omega⟩ | exact ⟨fun _ _ _ _ => by exfalso; omega, fun _ => rfl⟩)⟩)
    · skip
      refine r_ld (pc' := 13) rfl rfl rfl rfl ?_
      refine r_zlt (pc' := 16) rfl rfl ⟨by omega, by omega⟩ (fun hc11 => ?_) (fun hc11 => ?_)
      · skip
        refine r_c0 (pc' := 22) rfl rfl ?_
        refine r_go rfl ?_
        exact r_ri rfl (po_I hst ⟨by decide, by decide⟩ ⟨rfl, rfl, rfl, by omega, by omega, (by first | exact ⟨fun _ _ _ _ => rfl, fun q => by exfalso; omega⟩ | exact ⟨fun _ _ _ _ => by exfalso; omega, fun _ => rfl⟩)⟩)
      · skip
        refine r_ld (pc' := 17) rfl rfl rfl rfl ?_
        refine r_c0 (pc' := 18) rfl rfl ?_
        refine r_ile (pc' := 21) rfl rfl ⟨by omega, by omega⟩ ⟨by decide, by decide⟩ (fun hc12 => ?_) (fun hc12 => ?_)
        · skip
          refine r_ld (pc' := 26) rfl rfl rfl rfl ?_
          refine r_gr (b := 242) (pc' := 29) rfl rfl sh_225 rfl pp_225_31 ?_
          refine r_c0 (pc' := 30) rfl rfl ?_
          refine r_ld (pc' := 31) rfl rfl rfl rfl ?_
          refine r_mul (pc' := 32) rfl rfl ?_
          refine r_ld (pc' := 33) rfl rfl rfl rfl ?_
          refine r_add (pc' := 34) rfl rfl ?_
          have hb13 := rd_242 hz (i := ((3 * a1) + a2).toNat) (by omega)
          refine r_ia (pc' := 35) rfl rfl sh_242 rfl (by omega) (by omega) rfl ?_
          exact r_ri rfl (po_I hst ⟨by omega, by omega⟩ ⟨rfl, rfl, rfl, by omega, by omega, (by first | exact ⟨fun _ _ _ _ => rfl, fun q => by exfalso; omega⟩ | exact ⟨fun _ _ _ _ => by exfalso; omega, fun _ => rfl⟩)⟩)
        · skip
          refine r_c0 (pc' := 22) rfl rfl ?_
          refine r_go rfl ?_
          exact r_ri rfl (po_I hst ⟨by decide, by decide⟩ ⟨rfl, rfl, rfl, by omega, by omega, (by first | exact ⟨fun _ _ _ _ => rfl, fun q => by exfalso; omega⟩ | exact ⟨fun _ _ _ _ => by exfalso; omega, fun _ => rfl⟩)⟩)
/-- LoopGroundModel points -/
abbrev S_178p  : mS := [(225, 225, 32, 32), (242, 242, 0, 35)]
abbrev E_178p  (z0 w0 : mZ) (x y tx it mt tt ct : Option Nat) : mZ → mZ → mP → Prop := fun z w p => p = (pq x y tx it mt tt ct) ∧ (PQ (z0 240) (3 * z0 225 26).toNat (3 * z0 225 26).toNat (z 242) (z 225 32))
theorem m_178p {d : Nat} {z0 w0 : mZ} {x y tx it mt tt ct : Option Nat}  (hz : rz z0) (hw : rw_ w0) (hcl : ∀ s : Nat, (s : Int) < 3 * z0 225 26 → 0 ≤ z0 240 s ∧ z0 240 s < 3 * z0 225 26) : wc (d + 2) 178 [.ref 225] (mk z0 w0 (pq x y tx it mt tt ct)) (poV S_178p z0 w0 (E_178p  z0 w0 x y tx it mt tt ct)) := by
  have hst : st_ S_178p z0 w0 z0 w0 := st_rf hz hw
  have hz32 := rd_225_26 hz
  have h26 := rd_225_26 hz
  have key : ∀ N : Nat, (∀ (x1 : Int) (z w : mZ), 0 ≤ x1 ∧ x1 ≤ 36 → st_ S_178p z0 w0 z w → (z 225 32 = 0) → (∀ i : Nat, (i : Int) < x1 → z 242 i = -1) → 100000 + (36 - x1) < (N : Int) → wp_ (d + 1) 178 3 none (7, [(0, .ref 225), (1, .int (Int32.ofInt x1))], [], mk z w (pq x y tx it mt tt ct)) (poV S_178p z0 w0 (E_178p  z0 w0 x y tx it mt tt ct))) ∧ (∀ (x1 : Int) (z w : mZ), 0 ≤ x1 ∧ x1 ≤ 36 → st_ S_178p z0 w0 z w → (z 225 32 ≤ x1) → (PQ (z0 240) (3 * z0 225 26).toNat x1.toNat (z 242) (z 225 32)) → (x1 ≤ 3 * z0 225 26) → 100 * (36 - x1) + 60 < (N : Int) → wp_ (d + 1) 178 3 none (28, [(0, .ref 225), (1, .int (Int32.ofInt x1))], [], mk z w (pq x y tx it mt tt ct)) (poV S_178p z0 w0 (E_178p  z0 w0 x y tx it mt tt ct))) ∧ (∀ (x1 x2 : Int) (z w : mZ), 0 ≤ x1 ∧ x1 ≤ 35 → 0 ≤ x2 ∧ x2 ≤ 35 → 1 ≤ z0 225 26 ∧ z0 225 26 ≤ 12 → st_ S_178p z0 w0 z w → (z 225 32 ≤ x1) → (∃ k, MI (z0 240) (ptf (z0 240) x1.toNat).2 (3 * z0 225 26).toNat (ptf (z0 240) x1.toNat).1 x1.toNat k (z 242) x2) → (z 225 32 = (ptf (z0 240) x1.toNat).2) → (x1 < 3 * z0 225 26) → ((ptf (z0 240) x1.toNat).1 x1.toNat = -1) → 100 * (36 - x1) + 10 + ng_ z < (N : Int) → wp_ (d + 1) 178 3 none (52, [(0, .ref 225), (1, .int (Int32.ofInt x1)), (2, .int (Int32.ofInt x2))], [], mk z w (pq x y tx it mt tt ct)) (poV S_178p z0 w0 (E_178p  z0 w0 x y tx it mt tt ct))) := by
    intro N
    induction N with
    | zero =>
      refine ⟨?_, ?_, ?_⟩
      · intro x1 z w
        intros; exfalso; omega
      · intro x1 z w
        intros; exfalso; omega
      · intro x1 x2 z w
        have hng := ng_b z
        intros; exfalso; omega
    | succ N ih =>
      obtain ⟨ih0, ih1, ih2⟩ := ih
      refine ⟨?_, ?_, ?_⟩
      · intro x1 z w  hx1 hst as1 as2 hM
        refine r_ld (pc' := 8) rfl rfl rfl rfl ?_
        refine r_cb (pc' := 10) rfl (by decide) rfl ?_
        refine r_ige (pc' := 13) rfl rfl ⟨by omega, by omega⟩ ⟨by decide, by decide⟩ (fun hc33 => ?_) (fun hc33 => ?_)
        · skip
          refine r_c0 (pc' := 27) rfl rfl ?_
          refine r_st (pc' := 28) (lv' := [(1, _), (0, _)]) rfl rfl rfl rfl ?_
          have hb34 := rd_225_32 hst.1
          exact w_lv (sub_c rfl (sub_c rfl sub_n)) rfl (ih1 0 z w ⟨by omega, by omega⟩ hst (by first | omega | assumption) (by first | exact PQ_0 (fun i hi => as2 i (by omega)) (by omega) rfl | exact PQ_k as2 (by omega) (by omega) (by omega) | exact PQ_n as5 as4 (fun i hi => by rw [as5]; exact MI_e hmi (Or.inl (by omega)) i hi) (funext fun i => rfl) (by omega) (by omega)) (by first | omega | assumption) (by omega))
        · skip
          refine r_ld (pc' := 14) rfl rfl rfl rfl ?_
          refine r_gr (b := 242) (pc' := 17) rfl rfl sh_225 rfl pp_225_31 ?_
          refine r_ld (pc' := 18) rfl rfl rfl rfl ?_
          refine r_c0 (pc' := 19) rfl rfl ?_
          refine r_is (pc' := 20) rfl rfl sh_242 rfl (by omega) (by omega) hst (inS_s (inS_0 (by omega) (by omega) (by omega) (by omega))) (wr_242 ⟨by omega, by omega⟩) (fun z35 hq36 hs37 => ?_)
          have hq3 := hq36
          refine r_inc (pc' := 23) (lv' := [(0, _)]) rfl rfl rfl rfl rfl ?_
          refine r_go rfl ?_
          have hb38 := rd_225_32 hst.1
          have hf39 : z35 225 32 = z 225 32 := ((congrFun (congrFun hq36 _) _).trans (mu_ne (by omega)))
          exact w_lv (sub_c rfl (sub_c rfl sub_n)) rfl (ih0 (x1 + 1) z35 w ⟨by omega, by omega⟩ hs37 (by first | omega | assumption | (simp only [hf39]; assumption)) (by first | (intro i hi; exfalso; omega) | (intro i hi; rw [hq3]; by_cases c : i = x1.toNat; (subst c; exact mu_eq); (rw [mu_ne (by omega)]; exact as2 i (by omega)))) (by omega))
      · intro x1 z w  hx1 hst as1 as2 as3 hM
        have hpb := PQ_b as2
        refine r_ld (pc' := 29) rfl rfl rfl rfl ?_
        refine r_c0 (pc' := 30) rfl rfl ?_
        refine r_ld (pc' := 31) rfl rfl rfl rfl ?_
        have hb40 := rd_225_26 hz
        refine r_gi (pc' := 34) rfl rfl sh_225 rfl (hst.2.2.1 _ _ (notS_c (by omega) (notS_c (by omega) notS_n))) ?_
        refine r_mul (pc' := 35) rfl rfl ?_
        refine r_ige (pc' := 38) rfl rfl ⟨by omega, by omega⟩ ⟨by omega, by omega⟩ (fun hc41 => ?_) (fun hc41 => ?_)
        · skip
          have hb42 := rd_225_32 hst.1
          exact r_ret rfl (po_V hst ⟨rfl, (by have e9 : x1.toNat = (3 * z0 225 26).toNat := (by omega); rw [e9] at as2; exact as2)⟩)
        · skip
          refine r_ld (pc' := 39) rfl rfl rfl rfl ?_
          refine r_gr (b := 242) (pc' := 42) rfl rfl sh_225 rfl pp_225_31 ?_
          refine r_ld (pc' := 43) rfl rfl rfl rfl ?_
          have hb43 := rd_242 hst.1 (i := x1.toNat) (by omega)
          refine r_ia (pc' := 44) rfl rfl sh_242 rfl (by omega) (by omega) rfl ?_
          refine r_zlt (pc' := 47) rfl rfl ⟨by omega, by omega⟩ (fun hc44 => ?_) (fun hc44 => ?_)
          · skip
            refine r_ld (pc' := 51) rfl rfl rfl rfl ?_
            refine r_st (pc' := 52) (lv' := [(2, _), (0, _), (1, _)]) rfl rfl rfl rfl ?_
            have hb45 := rd_225_32 hst.1
            have hng := ng_b z
            exact w_lv (sub_c rfl (sub_c rfl (sub_c rfl sub_n))) rfl (ih2 x1 x1 z w ⟨by omega, by omega⟩ ⟨by omega, by omega⟩ ⟨by omega, by omega⟩ hst (by first | omega | assumption) (by first | exact ⟨0, MI_0 (fun i hi => as2.1 i hi) (by omega) (by omega) (by have q9 := as2.2; omega) (by omega)⟩ | exact ⟨kk + 1, MI_s hmi (by omega) (fun i hi => by rw [hq7, as5]; by_cases c : i = x2.toNat; (subst c; rw [if_pos rfl]; exact mu_eq); (rw [if_neg c, mu_ne (by omega)])) (by rw [hbh]) (by omega) (by omega) rfl⟩) (by first | exact as2.2 | omega) (by first | omega | assumption) (by first | exact as4 | exact (as2.1 _ (by omega)).symm.trans (by omega)) (by omega))
          · skip
            refine r_go rfl ?_
            refine r_inc (pc' := 98) (lv' := [(0, _)]) rfl rfl rfl rfl rfl ?_
            refine r_go rfl ?_
            have hb46 := rd_225_32 hst.1
            exact w_lv (sub_c rfl (sub_c rfl sub_n)) rfl (ih1 (x1 + 1) z w ⟨by omega, by omega⟩ hst (by first | omega | assumption) (by first | exact PQ_0 (fun i hi => as2 i (by omega)) (by omega) rfl | exact PQ_k as2 (by omega) (by omega) (by omega) | exact PQ_n as5 as4 (fun i hi => by rw [as5]; exact MI_e hmi (Or.inl (by omega)) i hi) (funext fun i => rfl) (by omega) (by omega)) (by first | omega | assumption) (by omega))
      · intro x1 x2 z w  hx1 hx2 hz0_0 hst as1 as2 as5 as3 as4 hM
        have hng0 := ng_b z
        obtain ⟨kk, hmi⟩ := as2
        have hma := MI_a hmi
        refine r_ld (pc' := 53) rfl rfl rfl rfl ?_
        refine r_gr (b := 242) (pc' := 56) rfl rfl sh_225 rfl pp_225_31 ?_
        refine r_ld (pc' := 57) rfl rfl rfl rfl ?_
        have hb47 := rd_242 hst.1 (i := x2.toNat) (by omega)
        refine r_ia (pc' := 58) rfl rfl sh_242 rfl (by omega) (by omega) rfl ?_
        refine r_zge (pc' := 61) rfl rfl ⟨by omega, by omega⟩ (fun hc48 => ?_) (fun hc48 => ?_)
        · skip
          refine r_ld (pc' := 86) rfl rfl rfl rfl ?_
          refine r_al (pc' := 87) rfl rfl rfl rfl ?_
          have hb49 := rd_225_32 hst.1
          refine r_gi (pc' := 90) rfl rfl sh_225 rfl rfl ?_
          refine r_c0 (pc' := 91) rfl rfl ?_
          refine r_add (pc' := 92) rfl rfl ?_
          refine r_pi (pc' := 95) rfl rfl sh_225 rfl rfl hst (inS_0 (by omega) (by omega) (by omega) (by omega)) (wr_225_32 ⟨by omega, by omega⟩) (fun z50 hq51 hs52 => ?_)
          refine r_inc (pc' := 98) (lv' := [(0, _), (2, _)]) rfl rfl rfl rfl rfl ?_
          refine r_go rfl ?_
          have hf53 : z50 225 32 = (z 225 32) + 1 := ((congrFun (congrFun hq51 _) _).trans mu_eq)
          have hF54 : z50 242 = z 242 := ((congrFun hq51 _).trans (mu_fn (by omega)))
          exact w_lv (sub_c rfl (sub_c rfl sub_n)) rfl (ih1 (x1 + 1) z50 w ⟨by omega, by omega⟩ hs52 (by first | omega | assumption | (simp only [hF54, hf53]; assumption)) (by first | exact PQ_0 (fun i hi => as2 i (by omega)) (by omega) rfl | exact PQ_k as2 (by omega) (by omega) (by omega) | exact PQ_n as5 as4 (fun i hi => by rw [as5]; exact MI_e hmi (Or.inl (by omega)) i hi) (funext fun i => ((congrFun (congrFun hq51 _) _).trans (mu_ne (by omega)))) (by omega) (by omega)) (by first | omega | assumption | (simp only [hF54, hf53]; assumption)) (by omega))
        · skip
          refine r_ld (pc' := 62) rfl rfl rfl rfl ?_
          refine r_gr (b := 242) (pc' := 65) rfl rfl sh_225 rfl pp_225_31 ?_
          refine r_ld (pc' := 66) rfl rfl rfl rfl ?_
          refine r_ld (pc' := 67) rfl rfl rfl rfl ?_
          have hb55 := rd_225_32 hst.1
          refine r_gi (pc' := 70) rfl rfl sh_225 rfl rfl ?_
          refine r_is (pc' := 71) rfl rfl sh_242 rfl (by omega) (by omega) hst (inS_s (inS_0 (by omega) (by omega) (by omega) (by omega))) (wr_242 ⟨by omega, by omega⟩) (fun z56 hq57 hs58 => ?_)
          have hnw := ng_w hq57 (by omega) (by omega) (by omega)
          have hq7 := hq57
          refine r_ld (pc' := 72) rfl rfl rfl rfl ?_
          refine r_gr (b := 240) (pc' := 75) rfl rfl sh_225 rfl pp_225_29 ?_
          refine r_ld (pc' := 76) rfl rfl rfl rfl ?_
          refine r_c0 (pc' := 77) rfl rfl ?_
          refine r_cSI (pc' := 80) rfl rfl rfl rfl rfl (m_177b (d := d) x2 1 hs58.1 hs58.2.1 ⟨by omega, by omega⟩ ⟨by omega, by omega⟩) (fun v59 z60 w61 p62 h63 hs64 hE65 => ?_)
          obtain ⟨rfl, rfl, rfl, hE65⟩ := hE65
          have hbh := bh_v (x := x2) (v := v59) (by omega) hE65.2.2
          have hob := hcl v59.toNat (by rw [hbh]; unfold bh; split <;> omega)
          have hb67 := rd_240 hz (i := v59.toNat) (by omega)
          refine r_ia (pc' := 81) rfl rfl sh_240 rfl (by omega) (by omega) (((congrFun (congrFun hq57 _) _).trans (mu_ne (by omega))).trans (hst.2.2.1 _ _ (notS_c (by omega) (notS_c (by omega) notS_n)))) ?_
          refine r_st (pc' := 82) (lv' := [(2, _), (0, _), (1, _)]) rfl rfl rfl rfl ?_
          refine r_go rfl ?_
          have hf68 : z56 225 32 = z 225 32 := ((congrFun (congrFun hq57 _) _).trans (mu_ne (by omega)))
          have hng := ng_b z56
          exact w_lv (sub_c rfl (sub_c rfl (sub_c rfl sub_n))) rfl (ih2 x1 (z0 240 v59.toNat) z56 w ⟨by omega, by omega⟩ ⟨by omega, by omega⟩ ⟨by omega, by omega⟩ hs58 (by first | omega | assumption | (simp only [hf68]; assumption)) (by first | exact ⟨0, MI_0 (fun i hi => as2.1 i hi) (by omega) (by omega) (by have q9 := as2.2; omega) (by omega)⟩ | exact ⟨kk + 1, MI_s hmi (by omega) (fun i hi => by rw [hq7, as5]; by_cases c : i = x2.toNat; (subst c; rw [if_pos rfl]; exact mu_eq); (rw [if_neg c, mu_ne (by omega)])) (by rw [hbh]) (by omega) (by omega) rfl⟩) (by first | exact as2.2 | omega) (by first | omega | assumption | (simp only [hf68]; assumption)) (by first | exact as4 | exact (as2.1 _ (by omega)).symm.trans (by omega)) (by omega))
  refine w_m rfl rfl ?_
  refine r_ld (pc' := 1) rfl rfl rfl rfl ?_
  refine r_c0 (pc' := 2) rfl rfl ?_
  refine r_pi (pc' := 5) rfl rfl sh_225 rfl rfl hst (inS_0 (by omega) (by omega) (by omega) (by omega)) (wr_225_32 ⟨by omega, by omega⟩) (fun z69 hq70 hs71 => ?_)
  refine r_c0 (pc' := 6) rfl rfl ?_
  refine r_st (pc' := 7) (lv' := [(1, _), (0, _)]) rfl rfl rfl rfl ?_
  have hf72 : z69 225 32 = 0 := ((congrFun (congrFun hq70 _) _).trans mu_eq)
  exact w_lv (sub_c rfl (sub_c rfl sub_n)) rfl ((key ((100000 + (36 - 0) : Int).toNat + 1)).1 0 z69 w0 ⟨by omega, by omega⟩ hs71 (by first | omega | assumption | (simp only [hf72]; assumption)) (by first | (intro i hi; exfalso; omega) | (intro i hi; rw [hq3]; by_cases c : i = x1.toNat; (subst c; exact mu_eq); (rw [mu_ne (by omega)]; exact as2 i (by omega)))) (by omega))
/-- LoopGroundModel nowAll -/
abbrev S_239v  : mS := []
abbrev E_239v  (z0 w0 : mZ) (x y tx it mt tt ct : Option Nat) : Int → mZ → mZ → mP → Prop := fun v z w p => p = (pq x y tx it mt tt ct) ∧ z0 = z ∧ w0 = w ∧ 0 ≤ v ∧ v ≤ 1800000000000000 ∧ (v = sm (tr (rE z0) (w0 270)) 18)
theorem m_239v {d : Nat} {z0 w0 : mZ} {x y tx it mt tt ct : Option Nat}  (hz : rz z0) (hw : rw_ w0) : wc (d + 3) 239 [.ref 225] (mk z0 w0 (pq x y tx it mt tt ct)) (poL S_239v z0 w0 (E_239v  z0 w0 x y tx it mt tt ct)) := by
  have hst : st_ S_239v z0 w0 z0 w0 := st_rf hz hw
  refine w_m rfl rfl ?_
  refine r_ld (pc' := 1) rfl rfl rfl rfl ?_
  refine r_c0 (pc' := 2) rfl rfl ?_
  refine r_cVL (pc' := 5) rfl rfl rfl rfl rfl sh_225 (m_181n (d := d) ((-1)) hst.1 hst.2.1 ⟨by omega, by omega⟩) (fun v9 z10 w11 p12 h13 hs14 hE15 => ?_)
  obtain ⟨rfl, rfl, rfl, hE15⟩ := hE15
  have hsn := hE15.2.2
  exact r_rl rfl (po_L hst ⟨by omega, by omega⟩ ⟨rfl, rfl, rfl, by omega, by omega, (by exact hsn)⟩)
