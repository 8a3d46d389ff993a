/-! methods, printed by wip/tools/vcg.py -/
/-- LoopGroundModel shiftOut -/
abbrev S_240v  : mS := [(225, 225, 73, 73), (271, 271, 0, 1097)]
abbrev E_240v  (z0 w0 : mZ) (x y tx it mt tt ct : Option Nat) : mZ → mZ → mP → Prop := fun z w p => p = (pq x y tx it mt tt ct) ∧ (z 225 73 = z0 225 73 - 1 ∧ ∀ i : Nat, (i : Int) < 1062 → w 271 i = w0 271 (i + 18))
theorem m_240v {d : Nat} {z0 w0 : mZ} {x y tx it mt tt ct : Option Nat}  (hz : rz z0) (hw : rw_ w0) (h60 : z0 225 73 = 60) : wc (d + 1) 240 [.ref 225] (mk z0 w0 (pq x y tx it mt tt ct)) (poV S_240v z0 w0 (E_240v  z0 w0 x y tx it mt tt ct)) := by
  have hst : st_ S_240v z0 w0 z0 w0 := st_rf hz hw
  have hz11 := rd_225_73 hz
  have key : ∀ N : Nat, (∀ (x1 : Int) (z w : mZ), 0 ≤ x1 ∧ x1 ≤ 1080 → st_ S_240v z0 w0 z w → z 225 73 = z0 225 73 → (∀ i : Nat, (i : Int) < x1 → w 271 i = w0 271 (i + 18)) → (∀ i : Nat, x1 ≤ i → w 271 i = w0 271 i) → 24 * (1080 - x1) + 21 < (N : Int) → wp_ (d) 240 2 none (2, [(0, .ref 225), (1, .int (Int32.ofInt x1))], [], mk z w (pq x y tx it mt tt ct)) (poV S_240v z0 w0 (E_240v  z0 w0 x y tx it mt tt ct))) := by
    intro N
    induction N with
    | zero =>
      intro x1 z w
      intros; exfalso; omega
    | succ N ih =>
      have ih0 := ih; clear ih
      intro x1 z w  hx1 hst un_z_225_73 as1 as2 hM
      refine r_ld (pc' := 3) rfl rfl rfl rfl ?_
      refine r_cs (pc' := 6) rfl (by decide) rfl ?_
      refine r_ige (pc' := 9) rfl rfl ⟨by omega, by omega⟩ ⟨by decide, by decide⟩ (fun hc12 => ?_) (fun hc12 => ?_)
      · skip
        refine r_ld (pc' := 31) rfl rfl rfl rfl ?_
        refine r_al (pc' := 32) rfl rfl rfl rfl ?_
        have hb13 := rd_225_73 hz
        refine r_gi (pc' := 35) rfl rfl sh_225 rfl un_z_225_73 ?_
        refine r_c0 (pc' := 36) rfl rfl ?_
        refine r_sub (pc' := 37) rfl rfl ?_
        refine r_pi (pc' := 40) rfl rfl sh_225 rfl rfl hst (inS_0 (by omega) (by omega) (by omega) (by omega)) (wr_225_73 ⟨by omega, by omega⟩) (fun z14 hq15 hs16 => ?_)
        have hf17 : z14 225 73 = (z0 225 73) - 1 := ((congrFun (congrFun hq15 _) _).trans mu_eq)
        exact r_ret rfl (po_V hs16 ⟨rfl, (by exact ⟨by omega, fun i hi => as1 i (by omega)⟩)⟩)
      · skip
        refine r_ld (pc' := 10) rfl rfl rfl rfl ?_
        refine r_gr (b := 271) (pc' := 13) rfl rfl sh_225 rfl pp_225_72 ?_
        refine r_ld (pc' := 14) rfl rfl rfl rfl ?_
        refine r_ld (pc' := 15) rfl rfl rfl rfl ?_
        refine r_gr (b := 271) (pc' := 18) rfl rfl sh_225 rfl pp_225_72 ?_
        refine r_ld (pc' := 19) rfl rfl rfl rfl ?_
        refine r_cb (pc' := 21) rfl (by decide) rfl ?_
        refine r_add (pc' := 22) rfl rfl ?_
        have hb18 := rd_271 hst.2.1 (i := (x1 + 18).toNat) (by omega)
        refine r_la (pc' := 23) rfl rfl sh_271 rfl (by omega) (by omega) rfl ?_
        refine r_ls (pc' := 24) rfl rfl sh_271 rfl (by omega) (by omega) hst (inS_s (inS_0 (by omega) (by omega) (by omega) (by omega))) (wr_271 ⟨by omega, by omega⟩) (fun w19 hq20 hs21 => ?_)
        have hqa := hq20
        refine r_inc (pc' := 27) (lv' := [(0, _)]) rfl rfl rfl rfl rfl ?_
        refine r_go rfl ?_
        have hb22 := rd_225_73 hz
        have hf23 : z 225 73 = z0 225 73 := un_z_225_73
        exact w_lv (sub_c rfl (sub_c rfl sub_n)) rfl (ih0 (x1 + 1) z w19 ⟨by omega, by omega⟩ hs21 (un_z_225_73) (by first | (intro e he; exfalso; omega) | (intro e he; rw [hqa]; by_cases c : e = x1.toNat; (subst c; rw [mu_eq, as2 _ (by omega)]; congr 1; omega); (rw [mu_ne (by omega)]; exact as1 e (by omega)))) (by first | (intro i hi; rfl) | (intro i hi; rw [hqa, mu_ne (by omega)]; exact as2 i (by omega))) (by omega))
  refine w_m rfl rfl ?_
  refine r_c0 (pc' := 1) rfl rfl ?_
  refine r_st (pc' := 2) (lv' := [(1, _), (0, _)]) rfl rfl rfl rfl ?_
  have hb24 := rd_225_73 hz
  exact w_lv (sub_c rfl (sub_c rfl sub_n)) rfl ((key ((24 * (1080 - 0) + 21 : Int).toNat + 1)) 0 z0 w0 ⟨by omega, by omega⟩ hst (rfl) (by first | (intro e he; exfalso; omega) | (intro e he; rw [hqa]; by_cases c : e = x1.toNat; (subst c; rw [mu_eq, as2 _ (by omega)]; congr 1; omega); (rw [mu_ne (by omega)]; exact as1 e (by omega)))) (by first | (intro i hi; rfl) | (intro i hi; rw [hqa, mu_ne (by omega)]; exact as2 i (by omega))) (by omega))
/-- LoopGroundModel layOuts -/
abbrev S_216v  : mS := [(261, 261, 0, 71), (244, 244, 0, 18), (243, 243, 0, 17), (225, 225, 42, 42), (225, 225, 38, 38), (225, 225, 39, 39), (246, 246, 0, 17999), (225, 225, 40, 40)]
abbrev E_216v (a1 : Int) (a2 : Int) (z0 w0 : mZ) (x y tx it mt tt ct : Option Nat) : mZ → mZ → mP → Prop := fun z w p => p = (pq x y tx it mt tt ct)
theorem m_216v {d : Nat} {z0 w0 : mZ} {x y tx it mt tt ct : Option Nat} (a1 : Int) (a2 : Int) (hz : rz z0) (hw : rw_ w0) (ha1 : 0 ≤ a1 ∧ a1 ≤ 7) (ha2 : 0 ≤ a2 ∧ a2 ≤ 36) (hrv : RV z0 w0) (hal : a1 < z0 225 27) : wc (d + 5) 216 [.ref 225, .int (Int32.ofInt a1), .int (Int32.ofInt a2)] (mk z0 w0 (pq x y tx it mt tt ct)) (poV S_216v z0 w0 (E_216v a1 a2 z0 w0 x y tx it mt tt ct)) := by
  have hst : st_ S_216v z0 w0 z0 w0 := st_rf hz hw
  have hz34 := rd_225_27 hz
  have key : ∀ N : Nat, (∀ (x3 : Int) (z w : mZ), 0 ≤ x3 ∧ x3 ≤ 36 → st_ S_216v z0 w0 z w → z 225 38 = z0 225 38 → z 225 39 = z0 225 39 → z 225 40 = z0 225 40 → z 225 42 = z0 225 42 → (RV z w) → (a1 < z 225 27) → 55 * (36 - x3) + 990162 < (N : Int) → wp_ (d + 4) 216 4 none (2, [(0, .ref 225), (1, .int (Int32.ofInt a1)), (2, .int (Int32.ofInt a2)), (3, .int (Int32.ofInt x3))], [], mk z w (pq x y tx it mt tt ct)) (poV S_216v z0 w0 (E_216v a1 a2 z0 w0 x y tx it mt tt ct))) ∧ (∀ (x3 : Int) (z w : mZ), 0 ≤ x3 ∧ x3 ≤ 18000 → st_ S_216v z0 w0 z w → 55 * (18000 - x3) + 35 < (N : Int) → wp_ (d + 4) 216 4 none (30, [(0, .ref 225), (2, .int (Int32.ofInt a2)), (3, .int (Int32.ofInt x3))], [], mk z w (pq x y tx it mt tt ct)) (poV S_216v z0 w0 (E_216v a1 a2 z0 w0 x y tx it mt tt ct))) := by
    intro N
    induction N with
    | zero =>
      refine ⟨?_, ?_⟩
      · intro x3 z w
        intros; exfalso; omega
      · intro x3 z w
        intros; exfalso; omega
    | succ N ih =>
      obtain ⟨ih0, ih1⟩ := ih
      refine ⟨?_, ?_⟩
      · intro x3 z w  hx3 hst un_z_225_38 un_z_225_39 un_z_225_40 un_z_225_42 as0 as1 hM
        refine r_ld (pc' := 3) rfl rfl rfl rfl ?_
        refine r_cb (pc' := 5) rfl (by decide) rfl ?_
        refine r_ige (pc' := 8) rfl rfl ⟨by omega, by omega⟩ ⟨by decide, by decide⟩ (fun hc35 => ?_) (fun hc35 => ?_)
        · skip
          refine r_ld (pc' := 24) rfl rfl rfl rfl ?_
          refine r_ld (pc' := 25) rfl rfl rfl rfl ?_
          have hb36 := rd_225_26 hz
          have hf37 : z 225 26 = z0 225 26 := (hst.2.2.1 _ _ (notS_c (by omega) (notS_c (by omega) (notS_c (by omega) (notS_c (by omega) (notS_c (by omega) (notS_c (by omega) (notS_c (by omega) (notS_c (by omega) notS_n)))))))))
          have hF38 : z 235 = z0 235 := (funext fun _ => hst.2.2.1 _ _ (notS_c (by omega) (notS_c (by omega) (notS_c (by omega) (notS_c (by omega) (notS_c (by omega) (notS_c (by omega) (notS_c (by omega) (notS_c (by omega) notS_n)))))))))
          refine r_cVV (pc' := 28) rfl rfl rfl rfl rfl sh_225 (m_193t (d := d) a1 hst.1 hst.2.1 ⟨by omega, by omega⟩ (by exact as0.1.1) (by exact (as0.1.2.1 a1.toNat (by omega)).1) (by exact LF_sm as0.1.2.1 (by omega))) (fun z40 w41 p42 hs44 hE45 => ?_)
          have hs46 := st_tr hst hs44 (sub_B rfl)
          obtain rfl := hE45
          refine r_c0 (pc' := 29) rfl rfl ?_
          refine r_st (pc' := 30) (lv' := [(3, _), (0, _), (1, _), (2, _)]) rfl rfl rfl rfl ?_
          exact w_lv (sub_c rfl (sub_c rfl (sub_c rfl sub_n))) rfl (ih1 0 z40 w41 ⟨by omega, by omega⟩ hs46 (by omega))
        · skip
          refine r_ld (pc' := 9) rfl rfl rfl rfl ?_
          refine r_gr (b := 261) (pc' := 12) rfl rfl sh_225 rfl pp_225_61 ?_
          refine r_ld (pc' := 13) rfl rfl rfl rfl ?_
          refine r_ld (pc' := 14) rfl rfl rfl rfl ?_
          refine r_add (pc' := 15) rfl rfl ?_
          refine r_c0 (pc' := 16) rfl rfl ?_
          refine r_is (pc' := 17) rfl rfl sh_261 rfl (by omega) (by omega) hst (inS_0 (by omega) (by omega) (by omega) (by omega)) (wr_261 ⟨by omega, by omega⟩) (fun z47 hq48 hs49 => ?_)
          refine r_inc (pc' := 20) (lv' := [(0, _), (1, _), (2, _)]) rfl rfl rfl rfl rfl ?_
          refine r_go rfl ?_
          have hb50 := rd_225_27 hz
          have hf51 : z47 225 27 = z0 225 27 := (((congrFun (congrFun hq48 _) _).trans (mu_ne (by omega))).trans (hst.2.2.1 _ _ (notS_c (by omega) (notS_c (by omega) (notS_c (by omega) (notS_c (by omega) (notS_c (by omega) (notS_c (by omega) (notS_c (by omega) (notS_c (by omega) notS_n))))))))))
          have hb52 := rd_225_38 hz
          have hb53 := rd_225_39 hz
          have hb54 := rd_225_40 hz
          have hb55 := rd_225_42 hz
          exact w_lv (sub_c rfl (sub_c rfl (sub_c rfl (sub_c rfl sub_n)))) rfl (ih0 (x3 + 1) z47 w ⟨by omega, by omega⟩ hs49 ((((congrFun (congrFun hq48 _) _).trans (mu_ne (by omega))).trans un_z_225_38)) ((((congrFun (congrFun hq48 _) _).trans (mu_ne (by omega))).trans un_z_225_39)) ((((congrFun (congrFun hq48 _) _).trans (mu_ne (by omega))).trans un_z_225_40)) ((((congrFun (congrFun hq48 _) _).trans (mu_ne (by omega))).trans un_z_225_42)) (by first | exact hrv | exact RV_c hst.1 (fun i h1 h2 => ((congrFun (congrFun hq48 _) _).trans (mu_ne (by omega)))) (fun a h1 h2 h3 => funext fun i => ((congrFun (congrFun hq48 _) _).trans (mu_ne (by omega)))) (fun a h1 h2 => funext fun i => ((congrFun (congrFun hq48 _) _).trans (mu_ne (by omega)))) (((congrFun (congrFun hq48 _) _).trans (mu_ne (by omega)))) (((congrFun (congrFun hq48 _) _).trans (mu_ne (by omega)))) (funext fun i => ((congrFun (congrFun hq48 _) _).trans (mu_ne (by omega)))) (fun a h => funext fun i => rfl) as0) (by first | exact as1 | exact hal | (rw [show z47 225 27 = z 225 27 from ((congrFun (congrFun hq48 _) _).trans (mu_ne (by omega)))]; exact as1)) (by omega))
      · intro x3 z w  hx3 hst hM
        refine r_ld (pc' := 31) rfl rfl rfl rfl ?_
        refine r_ld (pc' := 32) rfl rfl rfl rfl ?_
        have hb56 := rd_225_42 hst.1
        refine r_gi (pc' := 35) rfl rfl sh_225 rfl rfl ?_
        refine r_ige (pc' := 38) rfl rfl ⟨by omega, by omega⟩ ⟨by omega, by omega⟩ (fun hc57 => ?_) (fun hc57 => ?_)
        · skip
          exact r_ret rfl (po_V hst rfl)
        · skip
          refine r_ld (pc' := 39) rfl rfl rfl rfl ?_
          refine r_gr (b := 261) (pc' := 42) rfl rfl sh_225 rfl pp_225_61 ?_
          refine r_ld (pc' := 43) rfl rfl rfl rfl ?_
          refine r_ld (pc' := 44) rfl rfl rfl rfl ?_
          refine r_gr (b := 246) (pc' := 47) rfl rfl sh_225 rfl pp_225_41 ?_
          refine r_ld (pc' := 48) rfl rfl rfl rfl ?_
          have hb58 := rd_246 hst.1 (i := x3.toNat) (by omega)
          refine r_ia (pc' := 49) rfl rfl sh_246 rfl (by omega) (by omega) rfl ?_
          refine r_add (pc' := 50) rfl rfl ?_
          refine r_al (pc' := 51) rfl rfl rfl rfl ?_
          have hb59 := rd_261 hst.1 (i := (a2 + (z 246 x3.toNat)).toNat) (by omega)
          refine r_ia (pc' := 52) rfl rfl sh_261 rfl (by omega) (by omega) rfl ?_
          refine r_c0 (pc' := 53) rfl rfl ?_
          refine r_add (pc' := 54) rfl rfl ?_
          refine w_hxi (fun v60 h61 h62 => ?_)
          refine r_is (pc' := 55) rfl rfl sh_261 rfl (by omega) (by omega) hst (inS_0 (by omega) (by omega) (by omega) (by omega)) (wr_261 ⟨by omega, by omega⟩) (fun z63 hq64 hs65 => ?_)
          refine r_ld (pc' := 56) rfl rfl rfl rfl ?_
          refine r_gr (b := 261) (pc' := 59) rfl rfl sh_225 rfl pp_225_61 ?_
          refine r_ld (pc' := 60) rfl rfl rfl rfl ?_
          refine r_ld (pc' := 61) rfl rfl rfl rfl ?_
          refine r_gr (b := 240) (pc' := 64) rfl rfl sh_225 rfl pp_225_29 ?_
          refine r_ld (pc' := 65) rfl rfl rfl rfl ?_
          refine r_gr (b := 246) (pc' := 68) rfl rfl sh_225 rfl pp_225_41 ?_
          refine r_ld (pc' := 69) rfl rfl rfl rfl ?_
          refine r_ia (pc' := 70) rfl rfl sh_246 rfl (by omega) (by omega) ((congrFun (congrFun hq64 _) _).trans (mu_ne (by omega))) ?_
          have hb66 := rd_240 hz (i := (z 246 x3.toNat).toNat) (by omega)
          refine r_ia (pc' := 71) rfl rfl sh_240 rfl (by omega) (by omega) (((congrFun (congrFun hq64 _) _).trans (mu_ne (by omega))).trans (hst.2.2.1 _ _ (notS_c (by omega) (notS_c (by omega) (notS_c (by omega) (notS_c (by omega) (notS_c (by omega) (notS_c (by omega) (notS_c (by omega) (notS_c (by omega) notS_n)))))))))) ?_
          refine r_add (pc' := 72) rfl rfl ?_
          refine r_al (pc' := 73) rfl rfl rfl rfl ?_
          have hb67 := rd_261 hs65.1 (i := (a2 + (z0 240 (z 246 x3.toNat).toNat)).toNat) (by omega)
          refine r_ia (pc' := 74) rfl rfl sh_261 rfl (by omega) (by omega) rfl ?_
          refine r_c0 (pc' := 75) rfl rfl ?_
          refine r_sub (pc' := 76) rfl rfl ?_
          refine w_hxi (fun v68 h69 h70 => ?_)
          refine r_is (pc' := 77) rfl rfl sh_261 rfl (by omega) (by omega) hs65 (inS_0 (by omega) (by omega) (by omega) (by omega)) (wr_261 ⟨by omega, by omega⟩) (fun z71 hq72 hs73 => ?_)
          refine r_inc (pc' := 80) (lv' := [(0, _), (2, _)]) rfl rfl rfl rfl rfl ?_
          refine r_go rfl ?_
          exact w_lv (sub_c rfl (sub_c rfl (sub_c rfl sub_n))) rfl (ih1 (x3 + 1) z71 w ⟨by omega, by omega⟩ hs73 (by omega))
  refine w_m rfl rfl ?_
  refine r_c0 (pc' := 1) rfl rfl ?_
  refine r_st (pc' := 2) (lv' := [(3, _), (0, _), (1, _), (2, _)]) rfl rfl rfl rfl ?_
  have hb74 := rd_225_27 hz
  have hb75 := rd_225_38 hz
  have hb76 := rd_225_39 hz
  have hb77 := rd_225_40 hz
  have hb78 := rd_225_42 hz
  exact w_lv (sub_c rfl (sub_c rfl (sub_c rfl (sub_c rfl sub_n)))) rfl ((key ((55 * (36 - 0) + 990162 : Int).toNat + 1)).1 0 z0 w0 ⟨by omega, by omega⟩ hst (rfl) (rfl) (rfl) (rfl) (by first | exact hrv | exact RV_c hst.1 (fun i h1 h2 => rfl) (fun a h1 h2 h3 => funext fun i => rfl) (fun a h1 h2 => funext fun i => rfl) (rfl) (rfl) (funext fun i => rfl) (fun a h => funext fun i => rfl) as0) (by first | exact as1 | exact hal | (rw [show z0 225 27 = z 225 27 from rfl]; exact as1)) (by omega))
/-- LoopGroundModel across -/
abbrev S_217v  : mS := [(261, 261, 0, 71), (244, 244, 0, 18), (243, 243, 0, 17), (225, 225, 42, 42), (225, 225, 38, 38), (225, 225, 39, 39), (246, 246, 0, 17999), (225, 225, 40, 40)]
abbrev E_217v (a1 : Int) (a2 : Int) (z0 w0 : mZ) (x y tx it mt tt ct : Option Nat) : Int → mZ → mZ → mP → Prop := fun v z w p => p = (pq x y tx it mt tt ct) ∧ (-1073741824) ≤ v ∧ v ≤ 1073741823
theorem m_217v {d : Nat} {z0 w0 : mZ} {x y tx it mt tt ct : Option Nat} (a1 : Int) (a2 : Int) (hz : rz z0) (hw : rw_ w0) (ha1 : (-2147483648) ≤ a1 ∧ a1 ≤ 2147483647) (ha2 : (-2147483648) ≤ a2 ∧ a2 ≤ 2147483647) (hrv : RV z0 w0) : wc (d + 6) 217 [.ref 225, .int (Int32.ofInt a1), .int (Int32.ofInt a2)] (mk z0 w0 (pq x y tx it mt tt ct)) (poI S_217v z0 w0 (E_217v a1 a2 z0 w0 x y tx it mt tt ct)) := by
  have hst : st_ S_217v z0 w0 z0 w0 := st_rf hz hw
  have h27 := rd_225_27 hz
  have key : ∀ N : Nat, (∀ (x3 x4 : Int) (z w : mZ), (-2147483648) ≤ x3 ∧ x3 ≤ 2147483647 → 0 ≤ x4 ∧ x4 ≤ 12 → 0 ≤ a1 ∧ a1 ≤ 7 → 0 ≤ a2 ∧ a2 ≤ 7 → 1 ≤ z0 225 27 ∧ z0 225 27 ≤ 8 → st_ S_217v z0 w0 z w → 80 * (12 - x4) + 49 < (N : Int) → wp_ (d + 5) 217 5 (some .int) (56, [(0, .ref 225), (3, .int (Int32.ofInt x3)), (4, .int (Int32.ofInt x4))], [], mk z w (pq x y tx it mt tt ct)) (poI S_217v z0 w0 (E_217v a1 a2 z0 w0 x y tx it mt tt ct))) := by
    intro N
    induction N with
    | zero =>
      intro x3 x4 z w
      intros; exfalso; omega
    | succ N ih =>
      have ih0 := ih; clear ih
      intro x3 x4 z w  hx3 hx4 hpa1 hpa2 hz0_0 hst hM
      refine r_ld (pc' := 58) rfl rfl rfl rfl ?_
      refine r_ld (pc' := 59) rfl rfl rfl rfl ?_
      have hb60 := rd_225_26 hz
      refine r_gi (pc' := 62) rfl rfl sh_225 rfl (hst.2.2.1 _ _ (notS_c (by omega) (notS_c (by omega) (notS_c (by omega) (notS_c (by omega) (notS_c (by omega) (notS_c (by omega) (notS_c (by omega) (notS_c (by omega) notS_n))))))))) ?_
      refine r_ige (pc' := 65) rfl rfl ⟨by omega, by omega⟩ ⟨by omega, by omega⟩ (fun hc61 => ?_) (fun hc61 => ?_)
      · skip
        refine r_ld (pc' := 124) rfl rfl rfl rfl ?_
        refine r_c0 (pc' := 125) rfl rfl ?_
        refine r_dvg (pc' := 126) rfl rfl ⟨by omega, by omega⟩ ⟨by decide, by decide⟩ (by decide) (fun v62 h63 h64 => ?_)
        exact r_ri rfl (po_I hst ⟨by omega, by omega⟩ ⟨rfl, by omega, by omega⟩)
      · skip
        refine r_ld (pc' := 66) rfl rfl rfl rfl ?_
        refine r_ld (pc' := 67) rfl rfl rfl rfl ?_
        refine r_gr (b := 261) (pc' := 70) rfl rfl sh_225 rfl pp_225_61 ?_
        refine r_c0 (pc' := 71) rfl rfl ?_
        refine r_ld (pc' := 73) rfl rfl rfl rfl ?_
        refine r_mul (pc' := 74) rfl rfl ?_
        have hb65 := rd_261 hst.1 (i := (3 * x4).toNat) (by omega)
        refine r_ia (pc' := 75) rfl rfl sh_261 rfl (by omega) (by omega) rfl ?_
        refine r_ld (pc' := 76) rfl rfl rfl rfl ?_
        refine r_gr (b := 261) (pc' := 79) rfl rfl sh_225 rfl pp_225_61 ?_
        refine r_cb (pc' := 81) rfl (by decide) rfl ?_
        refine r_c0 (pc' := 82) rfl rfl ?_
        refine r_ld (pc' := 84) rfl rfl rfl rfl ?_
        refine r_mul (pc' := 85) rfl rfl ?_
        refine r_add (pc' := 86) rfl rfl ?_
        refine r_c0 (pc' := 87) rfl rfl ?_
        refine r_add (pc' := 88) rfl rfl ?_
        have hb66 := rd_261 hst.1 (i := ((36 + (3 * x4)) + 1).toNat) (by omega)
        refine r_ia (pc' := 89) rfl rfl sh_261 rfl (by omega) (by omega) rfl ?_
        refine r_mul (pc' := 90) rfl rfl ?_
        refine w_hi (fun v67 h68 => ?_)
        unfold inI at h68
        refine r_ld (pc' := 91) rfl rfl rfl rfl ?_
        refine r_gr (b := 261) (pc' := 94) rfl rfl sh_225 rfl pp_225_61 ?_
        refine r_c0 (pc' := 95) rfl rfl ?_
        refine r_ld (pc' := 97) rfl rfl rfl rfl ?_
        refine r_mul (pc' := 98) rfl rfl ?_
        refine r_c0 (pc' := 99) rfl rfl ?_
        refine r_add (pc' := 100) rfl rfl ?_
        have hb69 := rd_261 hst.1 (i := ((3 * x4) + 1).toNat) (by omega)
        refine r_ia (pc' := 101) rfl rfl sh_261 rfl (by omega) (by omega) rfl ?_
        refine r_ld (pc' := 102) rfl rfl rfl rfl ?_
        refine r_gr (b := 261) (pc' := 105) rfl rfl sh_225 rfl pp_225_61 ?_
        refine r_cb (pc' := 107) rfl (by decide) rfl ?_
        refine r_c0 (pc' := 108) rfl rfl ?_
        refine r_ld (pc' := 110) rfl rfl rfl rfl ?_
        refine r_mul (pc' := 111) rfl rfl ?_
        refine r_add (pc' := 112) rfl rfl ?_
        have hb70 := rd_261 hst.1 (i := (36 + (3 * x4)).toNat) (by omega)
        refine r_ia (pc' := 113) rfl rfl sh_261 rfl (by omega) (by omega) rfl ?_
        refine r_mul (pc' := 114) rfl rfl ?_
        refine w_hi (fun v71 h72 => ?_)
        unfold inI at h72
        refine r_sub (pc' := 115) rfl rfl ?_
        refine w_hxi (fun v73 h74 h75 => ?_)
        refine r_add (pc' := 116) rfl rfl ?_
        refine w_hxi (fun v76 h77 h78 => ?_)
        refine r_st (pc' := 117) (lv' := [(3, _), (0, _), (4, _)]) rfl rfl rfl rfl ?_
        refine r_inc (pc' := 120) (lv' := [(3, _), (0, _)]) rfl rfl rfl rfl rfl ?_
        refine r_go rfl ?_
        exact w_lv (sub_c rfl (sub_c rfl (sub_c rfl sub_n))) rfl (ih0 v76 (x4 + 1) z w ⟨by omega, by omega⟩ ⟨by omega, by omega⟩ ⟨by omega, by omega⟩ ⟨by omega, by omega⟩ ⟨by omega, by omega⟩ hst (by omega))
  refine w_m rfl rfl ?_
  refine r_ld (pc' := 1) rfl rfl rfl rfl ?_
  refine r_ld (pc' := 2) rfl rfl rfl rfl ?_
  have hb79 := rd_225_27 hz
  refine r_cVI (pc' := 5) rfl rfl rfl rfl rfl sh_225 (m_173 (d := d + 4) a1 hst.1 hst.2.1 ⟨by omega, by omega⟩) (fun v80 z81 w82 p83 h84 hs85 hE86 => ?_)
  obtain ⟨rfl, rfl, rfl, hE86⟩ := hE86
  refine r_zeq (pc' := 8) rfl rfl ⟨by omega, by omega⟩ (fun hc88 => ?_) (fun hc88 => ?_)
  · skip
    refine r_al (pc' := 37) rfl rfl rfl rfl ?_
    exact r_ri rfl (po_I hst ⟨by decide, by decide⟩ ⟨rfl, by omega, by omega⟩)
  · skip
    refine r_ld (pc' := 9) rfl rfl rfl rfl ?_
    refine r_ld (pc' := 10) rfl rfl rfl rfl ?_
    refine r_cVI (pc' := 13) rfl rfl rfl rfl rfl sh_225 (m_173 (d := d + 4) a2 hst.1 hst.2.1 ⟨by omega, by omega⟩) (fun v89 z90 w91 p92 h93 hs94 hE95 => ?_)
    obtain ⟨rfl, rfl, rfl, hE95⟩ := hE95
    refine r_zeq (pc' := 16) rfl rfl ⟨by omega, by omega⟩ (fun hc97 => ?_) (fun hc97 => ?_)
    · skip
      refine r_al (pc' := 37) rfl rfl rfl rfl ?_
      exact r_ri rfl (po_I hst ⟨by decide, by decide⟩ ⟨rfl, by omega, by omega⟩)
    · skip
      refine r_ld (pc' := 17) rfl rfl rfl rfl ?_
      refine r_gr (b := 253) (pc' := 20) rfl rfl sh_225 rfl pp_225_49 ?_
      refine r_ld (pc' := 21) rfl rfl rfl rfl ?_
      have hb98 := rd_253 hz (i := a1.toNat) (by omega)
      refine r_ba (pc' := 22) rfl rfl sh_253 (Or.inr rfl) rfl (by omega) (by omega) rfl ?_
      refine r_zeq (pc' := 25) rfl rfl ⟨by omega, by omega⟩ (fun hc99 => ?_) (fun hc99 => ?_)
      · skip
        refine r_al (pc' := 37) rfl rfl rfl rfl ?_
        exact r_ri rfl (po_I hst ⟨by decide, by decide⟩ ⟨rfl, by omega, by omega⟩)
      · skip
        refine r_ld (pc' := 26) rfl rfl rfl rfl ?_
        refine r_gr (b := 253) (pc' := 29) rfl rfl sh_225 rfl pp_225_49 ?_
        refine r_ld (pc' := 30) rfl rfl rfl rfl ?_
        have hb100 := rd_253 hz (i := a2.toNat) (by omega)
        refine r_ba (pc' := 31) rfl rfl sh_253 (Or.inr rfl) rfl (by omega) (by omega) rfl ?_
        refine r_zne (pc' := 34) rfl rfl ⟨by omega, by omega⟩ (fun hc101 => ?_) (fun hc101 => ?_)
        · skip
          refine r_ld (pc' := 39) rfl rfl rfl rfl ?_
          refine r_ld (pc' := 40) rfl rfl rfl rfl ?_
          refine r_c0 (pc' := 41) rfl rfl ?_
          refine r_cVV (pc' := 44) rfl rfl rfl rfl rfl sh_225 (m_216v (d := d) a1 0 hst.1 hst.2.1 ⟨by omega, by omega⟩ ⟨by omega, by omega⟩ (by exact hrv) (by omega)) (fun z103 w104 p105 hs107 hE108 => ?_)
          have hs109 := st_tr hst hs107 (sub_B rfl)
          obtain rfl := hE108
          refine r_ld (pc' := 45) rfl rfl rfl rfl ?_
          refine r_ld (pc' := 46) rfl rfl rfl rfl ?_
          refine r_cb (pc' := 48) rfl (by decide) rfl ?_
          have hf110 : z103 225 27 = z0 225 27 := (hs107.2.2.1 _ _ (notS_c (by omega) (notS_c (by omega) (notS_c (by omega) (notS_c (by omega) (notS_c (by omega) (notS_c (by omega) (notS_c (by omega) (notS_c (by omega) notS_n)))))))))
          refine r_cVV (pc' := 51) rfl rfl rfl rfl rfl sh_225 (m_216v (d := d) a2 36 hs109.1 hs109.2.1 ⟨by omega, by omega⟩ ⟨by omega, by omega⟩ (by exact RV_c hz (fun i h1 h2 => (hs107.2.2.1 _ _ (notS_c (by omega) (notS_c (by omega) (notS_c (by omega) (notS_c (by omega) (notS_c (by omega) (notS_c (by omega) (notS_c (by omega) (notS_c (by omega) notS_n)))))))))) (fun a h1 h2 h3 => funext fun i => (hs107.2.2.1 _ _ (notS_c (by omega) (notS_c (by omega) (notS_c (by omega) (notS_c (by omega) (notS_c (by omega) (notS_c (by omega) (notS_c (by omega) (notS_c (by omega) notS_n)))))))))) (fun a h1 h2 => funext fun i => (hs107.2.2.1 _ _ (notS_c (by omega) (notS_c (by omega) (notS_c (by omega) (notS_c (by omega) (notS_c (by omega) (notS_c (by omega) (notS_c (by omega) (notS_c (by omega) notS_n)))))))))) ((hs107.2.2.1 _ _ (notS_c (by omega) (notS_c (by omega) (notS_c (by omega) (notS_c (by omega) (notS_c (by omega) (notS_c (by omega) (notS_c (by omega) (notS_c (by omega) notS_n)))))))))) ((hs107.2.2.1 _ _ (notS_c (by omega) (notS_c (by omega) (notS_c (by omega) (notS_c (by omega) (notS_c (by omega) (notS_c (by omega) (notS_c (by omega) (notS_c (by omega) notS_n)))))))))) (funext fun i => (hs107.2.2.1 _ _ (notS_c (by omega) (notS_c (by omega) (notS_c (by omega) (notS_c (by omega) (notS_c (by omega) (notS_c (by omega) (notS_c (by omega) (notS_c (by omega) notS_n)))))))))) (fun a h => funext fun i => (hs107.2.2.2 _ _ (notS_c (by omega) (notS_c (by omega) (notS_c (by omega) (notS_c (by omega) (notS_c (by omega) (notS_c (by omega) (notS_c (by omega) (notS_c (by omega) notS_n)))))))))) hrv) (by rw [show z103 225 27 = z0 225 27 from (hs107.2.2.1 _ _ (notS_c (by omega) (notS_c (by omega) (notS_c (by omega) (notS_c (by omega) (notS_c (by omega) (notS_c (by omega) (notS_c (by omega) (notS_c (by omega) notS_n)))))))))]; omega)) (fun z112 w113 p114 hs116 hE117 => ?_)
          have hs118 := st_tr hs109 hs116 (sub_B rfl)
          obtain rfl := hE117
          refine r_c0 (pc' := 52) rfl rfl ?_
          refine r_st (pc' := 53) (lv' := [(3, _), (0, _), (1, _), (2, _)]) rfl rfl rfl rfl ?_
          refine r_c0 (pc' := 54) rfl rfl ?_
          refine r_st (pc' := 56) (lv' := [(4, _), (3, _), (0, _), (1, _), (2, _)]) rfl rfl rfl rfl ?_
          exact w_lv (sub_c rfl (sub_c rfl (sub_c rfl sub_n))) rfl ((key ((80 * (12 - 0) + 49 : Int).toNat + 1)) 0 0 z112 w113 ⟨by omega, by omega⟩ ⟨by omega, by omega⟩ ⟨by omega, by omega⟩ ⟨by omega, by omega⟩ ⟨by omega, by omega⟩ hs118 (by omega))
        · skip
          refine r_al (pc' := 37) rfl rfl rfl rfl ?_
          exact r_ri rfl (po_I hst ⟨by decide, by decide⟩ ⟨rfl, by omega, by omega⟩)
