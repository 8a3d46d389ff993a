/-! methods, printed by wip/tools/vcg.py -/
/-- LoopGroundModel exchange -/
abbrev S_245v  : mS := [(271, 271, 0, 1097), (270, 270, 0, 17)]
abbrev E_245v (a1 : Int) (z0 w0 : mZ) (x y tx it mt tt ct : Option Nat) : mZ → mZ → mP → Prop := fun z w p => p = (pq x y tx it mt tt ct) ∧ (EXd w0 w a1.toNat)
theorem m_245v {d : Nat} {z0 w0 : mZ} {x y tx it mt tt ct : Option Nat} (a1 : Int) (hz : rz z0) (hw : rw_ w0) (ha1 : 0 ≤ a1 ∧ a1 ≤ 60) : wc (d + 1) 245 [.ref 225, .int (Int32.ofInt a1)] (mk z0 w0 (pq x y tx it mt tt ct)) (poV S_245v z0 w0 (E_245v a1 z0 w0 x y tx it mt tt ct)) := by
  have hst : st_ S_245v z0 w0 z0 w0 := st_rf hz hw
  have key : ∀ N : Nat, (∀ (x2 : Int) (z w : mZ), 0 ≤ x2 ∧ x2 ≤ 18 → st_ S_245v z0 w0 z w → (∀ e : Nat, (e : Int) < x2 → w 271 (18 * a1.toNat + e) = w0 270 e ∧ w 270 e = w0 271 (18 * a1.toNat + e)) → (∀ e : Nat, x2 ≤ e → e < 18 → w 271 (18 * a1.toNat + e) = w0 271 (18 * a1.toNat + e) ∧ w 270 e = w0 270 e) → (∀ i : Nat, i < 18 * a1.toNat ∨ 18 * a1.toNat + 18 ≤ i → w 271 i = w0 271 i) → 34 * (18 - x2) + 31 < (N : Int) → wp_ (d) 245 5 none (2, [(0, .ref 225), (1, .int (Int32.ofInt a1)), (2, .int (Int32.ofInt x2))], [], mk z w (pq x y tx it mt tt ct)) (poV S_245v z0 w0 (E_245v a1 z0 w0 x y tx it mt tt ct))) := by
    intro N
    induction N with
    | zero =>
      intro x2 z w
      intros; exfalso; omega
    | succ N ih =>
      have ih0 := ih; clear ih
      intro x2 z w  hx2 hst as1 as2 as3 hM
      refine r_ld (pc' := 3) rfl rfl rfl rfl ?_
      refine r_cb (pc' := 5) rfl (by decide) rfl ?_
      refine r_ige (pc' := 8) rfl rfl ⟨by omega, by omega⟩ ⟨by decide, by decide⟩ (fun hc10 => ?_) (fun hc10 => ?_)
      · skip
        exact r_ret rfl (po_V hst ⟨rfl, (by exact ⟨fun e he => as1 e (by omega), as3⟩)⟩)
      · skip
        refine r_ld (pc' := 9) rfl rfl rfl rfl ?_
        refine r_gr (b := 271) (pc' := 12) rfl rfl sh_225 rfl pp_225_72 ?_
        refine r_cb (pc' := 14) rfl (by decide) rfl ?_
        refine r_ld (pc' := 15) rfl rfl rfl rfl ?_
        refine r_mul (pc' := 16) rfl rfl ?_
        refine r_ld (pc' := 17) rfl rfl rfl rfl ?_
        refine r_add (pc' := 18) rfl rfl ?_
        have hb11 := rd_271 hst.2.1 (i := ((18 * a1) + x2).toNat) (by omega)
        refine r_la (pc' := 19) rfl rfl sh_271 rfl (by omega) (by omega) rfl ?_
        refine r_st (pc' := 20) (lv' := [(3, _), (0, _), (1, _), (2, _)]) rfl rfl rfl rfl ?_
        refine r_ld (pc' := 21) rfl rfl rfl rfl ?_
        refine r_gr (b := 271) (pc' := 24) rfl rfl sh_225 rfl pp_225_72 ?_
        refine r_cb (pc' := 26) rfl (by decide) rfl ?_
        refine r_ld (pc' := 27) rfl rfl rfl rfl ?_
        refine r_mul (pc' := 28) rfl rfl ?_
        refine r_ld (pc' := 29) rfl rfl rfl rfl ?_
        refine r_add (pc' := 30) rfl rfl ?_
        refine r_ld (pc' := 31) rfl rfl rfl rfl ?_
        refine r_gr (b := 270) (pc' := 34) rfl rfl sh_225 rfl pp_225_71 ?_
        refine r_ld (pc' := 35) rfl rfl rfl rfl ?_
        have hb12 := rd_270 hst.2.1 (i := x2.toNat) (by omega)
        refine r_la (pc' := 36) rfl rfl sh_270 rfl (by omega) (by omega) rfl ?_
        refine r_ls (pc' := 37) rfl rfl sh_271 rfl (by omega) (by omega) hst (inS_0 (by omega) (by omega) (by omega) (by omega)) (wr_271 ⟨by omega, by omega⟩) (fun w13 hq14 hs15 => ?_)
        have hqa := hq14
        refine r_ld (pc' := 38) rfl rfl rfl rfl ?_
        refine r_gr (b := 270) (pc' := 41) rfl rfl sh_225 rfl pp_225_71 ?_
        refine r_ld (pc' := 42) rfl rfl rfl rfl ?_
        refine r_ld (pc' := 43) rfl rfl rfl rfl ?_
        refine r_ls (pc' := 44) rfl rfl sh_270 rfl (by omega) (by omega) hs15 (inS_s (inS_0 (by omega) (by omega) (by omega) (by omega))) (wr_270 ⟨by omega, by omega⟩) (fun w16 hq17 hs18 => ?_)
        have hqb := hq17
        refine r_inc (pc' := 47) (lv' := [(3, _), (0, _), (1, _)]) rfl rfl rfl rfl rfl ?_
        refine r_go rfl ?_
        exact w_lv (sub_c rfl (sub_c rfl (sub_c rfl sub_n))) rfl (ih0 (x2 + 1) z w16 ⟨by omega, by omega⟩ hs18 (by first | (intro e he; exfalso; omega) | (intro e he; have k2 := as2 x2.toNat (by omega) (by omega); by_cases c : e = x2.toNat; (subst c; exact ⟨by rw [hqb, mu_ne (by omega), hqa, mu_eqi (by omega)]; exact k2.2, by rw [hqb, mu_eq, show (18 * a1 + x2).toNat = 18 * a1.toNat + x2.toNat by omega]; exact k2.1⟩); (rw [hqb, mu_ne (by omega), mu_ne (by omega), hqa, mu_ne (by omega), mu_ne (by omega)]; exact as1 e (by omega)))) (by first | (intro e he h2; exact ⟨rfl, rfl⟩) | (intro e he h2; rw [hqb, mu_ne (by omega), mu_ne (by omega), hqa, mu_ne (by omega), mu_ne (by omega)]; exact as2 e (by omega) h2)) (by first | (intro i hi; rfl) | (intro i hi; rw [hqb, mu_ne (by omega), hqa, mu_ne (by omega)]; exact as3 i hi)) (by omega))
  refine w_m rfl rfl ?_
  refine r_c0 (pc' := 1) rfl rfl ?_
  refine r_st (pc' := 2) (lv' := [(2, _), (0, _), (1, _)]) rfl rfl rfl rfl ?_
  exact w_lv (sub_c rfl (sub_c rfl (sub_c rfl sub_n))) rfl ((key ((34 * (18 - 0) + 31 : Int).toNat + 1)) 0 z0 w0 ⟨by omega, by omega⟩ hst (by first | (intro e he; exfalso; omega) | (intro e he; have k2 := as2 x2.toNat (by omega) (by omega); by_cases c : e = x2.toNat; (subst c; exact ⟨by rw [hqb, mu_ne (by omega), hqa, mu_eqi (by omega)]; exact k2.2, by rw [hqb, mu_eq, show (18 * a1 + x2).toNat = 18 * a1.toNat + x2.toNat by omega]; exact k2.1⟩); (rw [hqb, mu_ne (by omega), mu_ne (by omega), hqa, mu_ne (by omega), mu_ne (by omega)]; exact as1 e (by omega)))) (by first | (intro e he h2; exact ⟨rfl, rfl⟩) | (intro e he h2; rw [hqb, mu_ne (by omega), mu_ne (by omega), hqa, mu_ne (by omega), mu_ne (by omega)]; exact as2 e (by omega) h2)) (by first | (intro i hi; rfl) | (intro i hi; rw [hqb, mu_ne (by omega), hqa, mu_ne (by omega)]; exact as3 i hi)) (by omega))
