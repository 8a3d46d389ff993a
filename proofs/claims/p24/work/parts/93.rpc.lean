/-! methods, printed by wip/tools/vcg.py -/
/-- LoopGroundModel isFairWord -/
abbrev S_218v  : mS := []
abbrev E_218v (a1 : Int) (z0 w0 : mZ) (x y tx it mt tt ct : Option Nat) : Int → mZ → mZ → mP → Prop := fun v z w p => p = (pq x y tx it mt tt ct) ∧ z0 = z ∧ w0 = w ∧ 0 ≤ v ∧ v ≤ 1 ∧ (v = 1 → 0 ≤ a1 ∧ a1 < z0 225 28 ∧ FWr z0 a1.toNat)
theorem m_218v {d : Nat} {z0 w0 : mZ} {x y tx it mt tt ct : Option Nat} (a1 : Int) (hz : rz z0) (hw : rw_ w0) (ha1 : (-2147483648) ≤ a1 ∧ a1 ≤ 2147483647) (hwd : WDr z0) : wc (d + 2) 218 [.ref 225, .int (Int32.ofInt a1)] (mk z0 w0 (pq x y tx it mt tt ct)) (poI S_218v z0 w0 (E_218v a1 z0 w0 x y tx it mt tt ct)) := by
  have hst : st_ S_218v z0 w0 z0 w0 := st_rf hz hw
  have hz15 := rd_225_28 hz
  have key : ∀ N : Nat, (∀ (x2 x3 : Int) , 0 ≤ x2 ∧ x2 ≤ 1 → 0 ≤ x3 ∧ x3 ≤ 8 → (x2 = 1 → 0 ≤ a1 ∧ a1 < z0 225 28) → (x2 = 1 → ∀ i : Nat, (i : Int) < x3 → z0 254 (z0 237 (8 * a1.toNat + i)).toNat = 1) → (x2 = 1 → x3 = 0 ∨ x3 ≤ z0 239 a1.toNat) → 30 * (8 - x3) + 23 < (N : Int) → wp_ (d + 1) 218 4 (some .boolean) (8, [(0, .ref 225), (1, .int (Int32.ofInt a1)), (2, .int (Int32.ofInt x2)), (3, .int (Int32.ofInt x3))], [], mk z0 w0 (pq x y tx it mt tt ct)) (poI S_218v z0 w0 (E_218v a1 z0 w0 x y tx it mt tt ct))) := by
    intro N
    induction N with
    | zero =>
      intro x2 x3 
      intros; exfalso; omega
    | succ N ih =>
      have ih0 := ih; clear ih
      intro x2 x3  hx2 hx3 as1 as2 as3 hM
      refine r_ld (pc' := 9) rfl rfl rfl rfl ?_
      refine r_zeq (pc' := 12) rfl rfl ⟨by omega, by omega⟩ (fun hc16 => ?_) (fun hc16 => ?_)
      · skip
        refine r_ld (pc' := 46) rfl rfl rfl rfl ?_
        exact r_rz rfl (by omega) (po_I hst ⟨by omega, by omega⟩ ⟨rfl, rfl, rfl, by omega, by omega, (by intro hq; exact ⟨(as1 (by omega)).1, (as1 (by omega)).2, fun i hi => ⟨hwd a1.toNat (by have := as1 (by omega); omega) i hi, as2 (by omega) i (by omega)⟩⟩)⟩)
      · skip
        have hfa := as1 (by omega)
        refine r_ld (pc' := 13) rfl rfl rfl rfl ?_
        refine r_ld (pc' := 14) rfl rfl rfl rfl ?_
        refine r_gr (b := 239) (pc' := 17) rfl rfl sh_225 rfl pp_225_22 ?_
        refine r_ld (pc' := 18) rfl rfl rfl rfl ?_
        have hb17 := rd_239 hz (i := a1.toNat) (by omega)
        refine r_ia (pc' := 19) rfl rfl sh_239 rfl (by omega) (by omega) rfl ?_
        refine r_ige (pc' := 22) rfl rfl ⟨by omega, by omega⟩ ⟨by omega, by omega⟩ (fun hc18 => ?_) (fun hc18 => ?_)
        · skip
          refine r_ld (pc' := 46) rfl rfl rfl rfl ?_
          exact r_rz rfl (by omega) (po_I hst ⟨by omega, by omega⟩ ⟨rfl, rfl, rfl, by omega, by omega, (by intro hq; exact ⟨(as1 (by omega)).1, (as1 (by omega)).2, fun i hi => ⟨hwd a1.toNat (by have := as1 (by omega); omega) i hi, as2 (by omega) i (by omega)⟩⟩)⟩)
        · skip
          refine r_ld (pc' := 23) rfl rfl rfl rfl ?_
          refine r_gr (b := 254) (pc' := 26) rfl rfl sh_225 rfl pp_225_50 ?_
          refine r_ld (pc' := 27) rfl rfl rfl rfl ?_
          refine r_gr (b := 237) (pc' := 30) rfl rfl sh_225 rfl pp_225_20 ?_
          refine r_cb (pc' := 32) rfl (by decide) rfl ?_
          refine r_ld (pc' := 33) rfl rfl rfl rfl ?_
          refine r_mul (pc' := 34) rfl rfl ?_
          refine r_ld (pc' := 35) rfl rfl rfl rfl ?_
          refine r_add (pc' := 36) rfl rfl ?_
          have hb19 := rd_237 hz (i := ((8 * a1) + x3).toNat) (by omega)
          refine r_ia (pc' := 37) rfl rfl sh_237 rfl (by omega) (by omega) rfl ?_
          have hb20 := rd_254 hz (i := (z0 237 ((8 * a1) + x3).toNat).toNat) (by omega)
          refine r_ba (pc' := 38) rfl rfl sh_254 (Or.inr rfl) rfl (by omega) (by omega) rfl ?_
          refine r_st (pc' := 39) (lv' := [(2, _), (0, _), (1, _), (3, _)]) rfl rfl rfl rfl ?_
          refine r_inc (pc' := 42) (lv' := [(2, _), (0, _), (1, _)]) rfl rfl rfl rfl rfl ?_
          refine r_go rfl ?_
          exact w_lv (sub_c rfl (sub_c rfl (sub_c rfl (sub_c rfl sub_n)))) rfl (ih0 (z0 254 (z0 237 ((8 * a1) + x3).toNat).toNat) (x3 + 1) ⟨by omega, by omega⟩ ⟨by omega, by omega⟩ (by first | omega | assumption) (by first | (intro _ i hi; exfalso; omega) | (intro hq i hi; by_cases c : (i : Int) = x3; (rw [show 8 * a1.toNat + i = (8 * a1 + x3).toNat by omega]; omega); exact as2 (by omega) i (by omega))) (by first | omega | assumption) (by omega))
  refine w_m rfl rfl ?_
  refine r_ld (pc' := 1) rfl rfl rfl rfl ?_
  refine r_ld (pc' := 2) rfl rfl rfl rfl ?_
  have hb21 := rd_225_28 hz
  refine r_cVI (pc' := 5) rfl rfl rfl rfl rfl sh_225 (m_174 (d := d) a1 hst.1 hst.2.1 ⟨by omega, by omega⟩) (fun v22 z23 w24 p25 h26 hs27 hE28 => ?_)
  obtain ⟨rfl, rfl, rfl, hE28⟩ := hE28
  refine r_st (pc' := 6) (lv' := [(2, _), (0, _), (1, _)]) rfl rfl rfl rfl ?_
  refine r_c0 (pc' := 7) rfl rfl ?_
  refine r_st (pc' := 8) (lv' := [(3, _), (2, _), (0, _), (1, _)]) rfl rfl rfl rfl ?_
  exact w_lv (sub_c rfl (sub_c rfl (sub_c rfl (sub_c rfl sub_n)))) rfl ((key ((30 * (8 - 0) + 23 : Int).toNat + 1)) v22 0 ⟨by omega, by omega⟩ ⟨by omega, by omega⟩ (by first | omega | assumption) (by first | (intro _ i hi; exfalso; omega) | (intro hq i hi; by_cases c : (i : Int) = x3; (rw [show 8 * a1.toNat + i = (8 * a1 + x3).toNat by omega]; omega); exact as2 (by omega) i (by omega))) (by first | omega | assumption) (by omega))
