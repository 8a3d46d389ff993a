/-! methods, printed by wip/tools/vcg.py -/
/-- Told tellEdge -/
abbrev S_75x (t : Nat) : mS := [(t + 1, t + 1, 0, 35), (t + 6, t + 6, 0, 17), (t + 4, t + 4, 0, 17), (t + 5, t + 5, 0, 17)]
abbrev E_75x (t : Nat) (a1 : Int) (a2 : Int) (z0 w0 : mZ) (x y tx it mt tt ct : Option Nat) : mZ → mZ → mP → Prop := fun z w p => p = (pq x y tx it mt tt ct) ∧ (PI (z (t + 1)) (z (t + 4)) (z (t + 5)) (z (t + 6)) (a1 + 1) ∧ (∀ i : Nat, z (t + 1) i = if i = a1.toNat then a2 else z0 (t + 1) i) ∧ (∀ e : Nat, z (t + 4) e = if e = a2.toNat then z0 (t + 4) e + 1 else z0 (t + 4) e))
theorem m_75x {d : Nat} {z0 w0 : mZ} {x y tx it mt tt ct : Option Nat} (t : Nat) (a1 : Int) (a2 : Int) (hz : rz z0) (hw : rw_ w0) (ha1 : 0 ≤ a1 ∧ a1 ≤ 35) (ha2 : 0 ≤ a2 ∧ a2 ≤ 17) (ht : isT t) (htt : z0 (t + 4) a2.toNat ≤ 1) (hpi : PI (z0 (t + 1)) (z0 (t + 4)) (z0 (t + 5)) (z0 (t + 6)) a1) : wc (d + 1) 75 [.ref t, .int (Int32.ofInt a1), .int (Int32.ofInt a2)] (mk z0 w0 (pq x y tx it mt tt ct)) (poV (S_75x t) z0 w0 (E_75x t a1 a2 z0 w0 x y tx it mt tt ct)) := by
  have hst : st_ (S_75x t) z0 w0 z0 w0 := st_rf hz hw
  have htb : 159 ≤ t ∧ t ≤ 192 := by have := ht; unfold isT at this; omega
  refine w_m rfl rfl ?_
  refine r_ld (pc' := 1) rfl rfl rfl rfl ?_
  refine r_gr (b := t + 1) (pc' := 4) rfl rfl (sh_T ht) rfl (pp_T_5 ht) ?_
  refine r_ld (pc' := 5) rfl rfl rfl rfl ?_
  refine r_ld (pc' := 6) rfl rfl rfl rfl ?_
  refine r_is (pc' := 7) rfl rfl (sh_T1 ht) rfl (by omega) (by omega) hst (inS_0 (by omega) (by omega) (by omega) (by omega)) (wr_T1 ht ⟨by omega, by omega⟩) (fun z24 hq25 hs26 => ?_)
  refine r_ld (pc' := 8) rfl rfl rfl rfl ?_
  refine r_gr (b := t + 4) (pc' := 11) rfl rfl (sh_T ht) rfl (pp_T_8 ht) ?_
  refine r_ld (pc' := 12) rfl rfl rfl rfl ?_
  have hb27 := rd_T4 ht hz (i := a2.toNat) (by omega)
  refine r_ia (pc' := 13) rfl rfl (sh_T4 ht) rfl (by omega) (by omega) ((congrFun (congrFun hq25 _) _).trans (mu_ne (by omega))) ?_
  refine r_zne (pc' := 16) rfl rfl ⟨by omega, by omega⟩ (fun hc28 => ?_) (fun hc28 => ?_)
  · skip
    refine r_ld (pc' := 27) rfl rfl rfl rfl ?_
    refine r_gr (b := t + 6) (pc' := 30) rfl rfl (sh_T ht) rfl (pp_T_10 ht) ?_
    refine r_ld (pc' := 31) rfl rfl rfl rfl ?_
    refine r_ld (pc' := 32) rfl rfl rfl rfl ?_
    refine r_is (pc' := 33) rfl rfl (sh_T6 ht) rfl (by omega) (by omega) hs26 (inS_s (inS_0 (by omega) (by omega) (by omega) (by omega))) (wr_T6 ht ⟨by omega, by omega⟩) (fun z29 hq30 hs31 => ?_)
    refine r_ld (pc' := 34) rfl rfl rfl rfl ?_
    refine r_gr (b := t + 4) (pc' := 37) rfl rfl (sh_T ht) rfl (pp_T_8 ht) ?_
    refine r_ld (pc' := 38) rfl rfl rfl rfl ?_
    refine r_al (pc' := 39) rfl rfl rfl rfl ?_
    refine r_ia (pc' := 40) rfl rfl (sh_T4 ht) rfl (by omega) (by omega) (((congrFun (congrFun hq30 _) _).trans (mu_ne (by omega))).trans ((congrFun (congrFun hq25 _) _).trans (mu_ne (by omega)))) ?_
    refine r_c0 (pc' := 41) rfl rfl ?_
    refine r_add (pc' := 42) rfl rfl ?_
    refine r_is (pc' := 43) rfl rfl (sh_T4 ht) rfl (by omega) (by omega) hs31 (inS_s (inS_s (inS_0 (by omega) (by omega) (by omega) (by omega)))) (wr_T4 ht ⟨by omega, by omega⟩) (fun z32 hq33 hs34 => ?_)
    have hF35 : z32 (t + 1) = z24 (t + 1) := (((congrFun hq33 _).trans (mu_fn (by omega))).trans ((congrFun hq30 _).trans (mu_fn (by omega))))
    have hF36 : z32 (t + 5) = z0 (t + 5) := (((congrFun hq33 _).trans (mu_fn (by omega))).trans (((congrFun hq30 _).trans (mu_fn (by omega))).trans ((congrFun hq25 _).trans (mu_fn (by omega)))))
    have hF37 : z32 (t + 6) = z29 (t + 6) := ((congrFun hq33 _).trans (mu_fn (by omega)))
    exact r_ret rfl (po_V hs34 ⟨rfl, (by subst hq25 hq30 hq33; refine ⟨?_, fun i => by (simp only [mu]; (repeat' split) <;> first | omega | (simp_all; done) | (simp_all; omega)), fun e => by (simp only [mu]; (repeat' split) <;> first | omega | (simp_all; done) | (simp_all; omega))⟩; first | exact PI_0' (e := a2.toNat) hpi (by omega) (by omega) (by omega) (fun s hs => by (simp only [mu]; (repeat' split) <;> first | omega | (simp_all; done) | (simp_all; omega))) (by (simp only [mu]; (repeat' split) <;> first | omega | (simp_all; done) | (simp_all; omega))) (fun j hj => by (simp only [mu]; (repeat' split) <;> first | omega | (simp_all; done) | (simp_all; omega))) (by (simp only [mu]; (repeat' split) <;> first | omega | (simp_all; done) | (simp_all; omega))) (fun j hj => by (simp only [mu]; (repeat' split) <;> first | omega | (simp_all; done) | (simp_all; omega))) (by (simp only [mu]; (repeat' split) <;> first | omega | (simp_all; done) | (simp_all; omega))) (fun j => by (simp only [mu]; (repeat' split) <;> first | omega | (simp_all; done) | (simp_all; omega))) | exact PI_1' (e := a2.toNat) hpi (by omega) (by omega) (by omega) (fun s hs => by (simp only [mu]; (repeat' split) <;> first | omega | (simp_all; done) | (simp_all; omega))) (by (simp only [mu]; (repeat' split) <;> first | omega | (simp_all; done) | (simp_all; omega))) (fun j hj => by (simp only [mu]; (repeat' split) <;> first | omega | (simp_all; done) | (simp_all; omega))) (by (simp only [mu]; (repeat' split) <;> first | omega | (simp_all; done) | (simp_all; omega))) (fun j hj => by (simp only [mu]; (repeat' split) <;> first | omega | (simp_all; done) | (simp_all; omega))) (by (simp only [mu]; (repeat' split) <;> first | omega | (simp_all; done) | (simp_all; omega))) (fun j => by (simp only [mu]; (repeat' split) <;> first | omega | (simp_all; done) | (simp_all; omega))))⟩)
  · skip
    refine r_ld (pc' := 17) rfl rfl rfl rfl ?_
    refine r_gr (b := t + 5) (pc' := 20) rfl rfl (sh_T ht) rfl (pp_T_9 ht) ?_
    refine r_ld (pc' := 21) rfl rfl rfl rfl ?_
    refine r_ld (pc' := 22) rfl rfl rfl rfl ?_
    refine r_is (pc' := 23) rfl rfl (sh_T5 ht) rfl (by omega) (by omega) hs26 (inS_s (inS_s (inS_s (inS_0 (by omega) (by omega) (by omega) (by omega))))) (wr_T5 ht ⟨by omega, by omega⟩) (fun z38 hq39 hs40 => ?_)
    refine r_go rfl ?_
    refine r_ld (pc' := 34) rfl rfl rfl rfl ?_
    refine r_gr (b := t + 4) (pc' := 37) rfl rfl (sh_T ht) rfl (pp_T_8 ht) ?_
    refine r_ld (pc' := 38) rfl rfl rfl rfl ?_
    refine r_al (pc' := 39) rfl rfl rfl rfl ?_
    refine r_ia (pc' := 40) rfl rfl (sh_T4 ht) rfl (by omega) (by omega) (((congrFun (congrFun hq39 _) _).trans (mu_ne (by omega))).trans ((congrFun (congrFun hq25 _) _).trans (mu_ne (by omega)))) ?_
    refine r_c0 (pc' := 41) rfl rfl ?_
    refine r_add (pc' := 42) rfl rfl ?_
    refine r_is (pc' := 43) rfl rfl (sh_T4 ht) rfl (by omega) (by omega) hs40 (inS_s (inS_s (inS_0 (by omega) (by omega) (by omega) (by omega)))) (wr_T4 ht ⟨by omega, by omega⟩) (fun z41 hq42 hs43 => ?_)
    have hF44 : z41 (t + 1) = z24 (t + 1) := (((congrFun hq42 _).trans (mu_fn (by omega))).trans ((congrFun hq39 _).trans (mu_fn (by omega))))
    have hF45 : z41 (t + 5) = z38 (t + 5) := ((congrFun hq42 _).trans (mu_fn (by omega)))
    have hF46 : z41 (t + 6) = z0 (t + 6) := (((congrFun hq42 _).trans (mu_fn (by omega))).trans (((congrFun hq39 _).trans (mu_fn (by omega))).trans ((congrFun hq25 _).trans (mu_fn (by omega)))))
    exact r_ret rfl (po_V hs43 ⟨rfl, (by subst hq25 hq39 hq42; refine ⟨?_, fun i => by (simp only [mu]; (repeat' split) <;> first | omega | (simp_all; done) | (simp_all; omega)), fun e => by (simp only [mu]; (repeat' split) <;> first | omega | (simp_all; done) | (simp_all; omega))⟩; first | exact PI_0' (e := a2.toNat) hpi (by omega) (by omega) (by omega) (fun s hs => by (simp only [mu]; (repeat' split) <;> first | omega | (simp_all; done) | (simp_all; omega))) (by (simp only [mu]; (repeat' split) <;> first | omega | (simp_all; done) | (simp_all; omega))) (fun j hj => by (simp only [mu]; (repeat' split) <;> first | omega | (simp_all; done) | (simp_all; omega))) (by (simp only [mu]; (repeat' split) <;> first | omega | (simp_all; done) | (simp_all; omega))) (fun j hj => by (simp only [mu]; (repeat' split) <;> first | omega | (simp_all; done) | (simp_all; omega))) (by (simp only [mu]; (repeat' split) <;> first | omega | (simp_all; done) | (simp_all; omega))) (fun j => by (simp only [mu]; (repeat' split) <;> first | omega | (simp_all; done) | (simp_all; omega))) | exact PI_1' (e := a2.toNat) hpi (by omega) (by omega) (by omega) (fun s hs => by (simp only [mu]; (repeat' split) <;> first | omega | (simp_all; done) | (simp_all; omega))) (by (simp only [mu]; (repeat' split) <;> first | omega | (simp_all; done) | (simp_all; omega))) (fun j hj => by (simp only [mu]; (repeat' split) <;> first | omega | (simp_all; done) | (simp_all; omega))) (by (simp only [mu]; (repeat' split) <;> first | omega | (simp_all; done) | (simp_all; omega))) (fun j hj => by (simp only [mu]; (repeat' split) <;> first | omega | (simp_all; done) | (simp_all; omega))) (by (simp only [mu]; (repeat' split) <;> first | omega | (simp_all; done) | (simp_all; omega))) (fun j => by (simp only [mu]; (repeat' split) <;> first | omega | (simp_all; done) | (simp_all; omega))))⟩)
/-- Told placeOf -/
abbrev S_84x  : mS := []
abbrev E_84x (a0 : Int) (t : Nat) (a3 : Int) (z0 w0 : mZ) (x y tx it mt tt ct : Option Nat) : Int → mZ → mZ → mP → Prop := fun v z w p => p = (pq x y tx it mt tt ct) ∧ z0 = z ∧ w0 = w ∧ (-1) ≤ v ∧ v ≤ 7 ∧ ((v = -1 ∧ ∀ i : Nat, (i : Int) < a3 → w0 (t + 16) i ≠ a0) ∨ (0 ≤ v ∧ v < a3 ∧ w0 (t + 16) v.toNat = a0))
theorem m_84x {d : Nat} {z0 w0 : mZ} {x y tx it mt tt ct : Option Nat} (a0 : Int) (t : Nat) (a3 : Int) (hz : rz z0) (hw : rw_ w0) (ha0 : (-9223372036854775808) ≤ a0 ∧ a0 ≤ 9223372036854775807) (ha3 : 0 ≤ a3 ∧ a3 ≤ 8) (ht : isT t) : wc (d + 1) 84 [.long (Int64.ofInt a0), .ref (t + 16), .int (Int32.ofInt a3)] (mk z0 w0 (pq x y tx it mt tt ct)) (poI S_84x z0 w0 (E_84x a0 t a3 z0 w0 x y tx it mt tt ct)) := by
  have hst : st_ S_84x z0 w0 z0 w0 := st_rf hz hw
  have htb : 159 ≤ t ∧ t ≤ 192 := by have := ht; unfold isT at this; omega
  have key : ∀ N : Nat, (∀ (x4 : Int) , 0 ≤ x4 ∧ x4 ≤ 8 → (∀ i : Nat, (i : Int) < x4 → w0 (t + 16) i ≠ a0) → 17 * (8 - x4) + 14 < (N : Int) → wp_ (d) 84 5 (some .int) (3, [(0, .long (Int64.ofInt a0)), (2, .ref (t + 16)), (3, .int (Int32.ofInt a3)), (4, .int (Int32.ofInt x4))], [], mk z0 w0 (pq x y tx it mt tt ct)) (poI S_84x z0 w0 (E_84x a0 t a3 z0 w0 x y tx it mt tt ct))) := by
    intro N
    induction N with
    | zero =>
      intro x4 
      intros; exfalso; omega
    | succ N ih =>
      have ih0 := ih; clear ih
      intro x4  hx4 as1 hM
      refine r_ld (pc' := 5) rfl rfl rfl rfl ?_
      refine r_ld (pc' := 6) rfl rfl rfl rfl ?_
      refine r_ige (pc' := 9) rfl rfl ⟨by omega, by omega⟩ ⟨by omega, by omega⟩ (fun hc4 => ?_) (fun hc4 => ?_)
      · skip
        refine r_c0 (pc' := 28) rfl rfl ?_
        exact r_ri rfl (po_I hst ⟨by decide, by decide⟩ ⟨rfl, rfl, rfl, by omega, by omega, (by first | exact Or.inr ⟨by omega, by omega, by omega⟩ | exact Or.inl ⟨by omega, fun i hi => as1 i (by omega)⟩)⟩)
      · skip
        refine r_ld (pc' := 10) rfl rfl rfl rfl ?_
        refine r_ld (pc' := 12) rfl rfl rfl rfl ?_
        have hb5 := rd_T16 ht hw (i := x4.toNat) (by omega)
        refine r_la (pc' := 13) rfl rfl (sh_T16 ht) rfl (by omega) (by omega) rfl ?_
        refine r_ld (pc' := 14) rfl rfl rfl rfl ?_
        refine r_lne (pc' := 18) rfl rfl rfl ⟨by omega, by omega⟩ ⟨by omega, by omega⟩ (fun hc6 => ?_) (fun hc6 => ?_)
        · skip
          refine r_inc (pc' := 24) (lv' := [(0, _), (2, _), (3, _)]) rfl rfl rfl rfl rfl ?_
          refine r_go rfl ?_
          exact w_lv (sub_c rfl (sub_c rfl (sub_c rfl (sub_c rfl sub_n)))) rfl (ih0 (x4 + 1) ⟨by omega, by omega⟩ (by first | (intro i hi; exfalso; omega) | (intro i hi; by_cases c : i = x4.toNat; (rw [c]; omega); exact as1 i (by omega))) (by omega))
        · skip
          refine r_ld (pc' := 20) rfl rfl rfl rfl ?_
          exact r_ri rfl (po_I hst ⟨by omega, by omega⟩ ⟨rfl, rfl, rfl, by omega, by omega, (by first | exact Or.inr ⟨by omega, by omega, by omega⟩ | exact Or.inl ⟨by omega, fun i hi => as1 i (by omega)⟩)⟩)
  refine w_m rfl rfl ?_
  refine r_c0 (pc' := 1) rfl rfl ?_
  refine r_st (pc' := 3) (lv' := [(4, _), (0, _), (2, _), (3, _)]) rfl rfl rfl rfl ?_
  exact w_lv (sub_c rfl (sub_c rfl (sub_c rfl (sub_c rfl sub_n)))) rfl ((key ((17 * (8 - 0) + 14 : Int).toNat + 1)) 0 ⟨by omega, by omega⟩ (by first | (intro i hi; exfalso; omega) | (intro i hi; by_cases c : i = x4.toNat; (rw [c]; omega); exact as1 i (by omega))) (by omega))
/-- Told placeOf -/
abbrev S_84y  : mS := []
abbrev E_84y (a0 : Int) (t : Nat) (a3 : Int) (z0 w0 : mZ) (x y tx it mt tt ct : Option Nat) : Int → mZ → mZ → mP → Prop := fun v z w p => p = (pq x y tx it mt tt ct) ∧ z0 = z ∧ w0 = w ∧ (-1) ≤ v ∧ v ≤ 5 ∧ ((v = -1 ∧ ∀ i : Nat, (i : Int) < a3 → w0 (t + 17) i ≠ a0) ∨ (0 ≤ v ∧ v < a3 ∧ w0 (t + 17) v.toNat = a0))
theorem m_84y {d : Nat} {z0 w0 : mZ} {x y tx it mt tt ct : Option Nat} (a0 : Int) (t : Nat) (a3 : Int) (hz : rz z0) (hw : rw_ w0) (ha0 : (-9223372036854775808) ≤ a0 ∧ a0 ≤ 9223372036854775807) (ha3 : 0 ≤ a3 ∧ a3 ≤ 6) (ht : isT t) : wc (d + 1) 84 [.long (Int64.ofInt a0), .ref (t + 17), .int (Int32.ofInt a3)] (mk z0 w0 (pq x y tx it mt tt ct)) (poI S_84y z0 w0 (E_84y a0 t a3 z0 w0 x y tx it mt tt ct)) := by
  have hst : st_ S_84y z0 w0 z0 w0 := st_rf hz hw
  have htb : 159 ≤ t ∧ t ≤ 192 := by have := ht; unfold isT at this; omega
  have key : ∀ N : Nat, (∀ (x4 : Int) , 0 ≤ x4 ∧ x4 ≤ 6 → (∀ i : Nat, (i : Int) < x4 → w0 (t + 17) i ≠ a0) → 17 * (6 - x4) + 14 < (N : Int) → wp_ (d) 84 5 (some .int) (3, [(0, .long (Int64.ofInt a0)), (2, .ref (t + 17)), (3, .int (Int32.ofInt a3)), (4, .int (Int32.ofInt x4))], [], mk z0 w0 (pq x y tx it mt tt ct)) (poI S_84y z0 w0 (E_84y a0 t a3 z0 w0 x y tx it mt tt ct))) := by
    intro N
    induction N with
    | zero =>
      intro x4 
      intros; exfalso; omega
    | succ N ih =>
      have ih0 := ih; clear ih
      intro x4  hx4 as1 hM
      refine r_ld (pc' := 5) rfl rfl rfl rfl ?_
      refine r_ld (pc' := 6) rfl rfl rfl rfl ?_
      refine r_ige (pc' := 9) rfl rfl ⟨by omega, by omega⟩ ⟨by omega, by omega⟩ (fun hc4 => ?_) (fun hc4 => ?_)
      · skip
        refine r_c0 (pc' := 28) rfl rfl ?_
        exact r_ri rfl (po_I hst ⟨by decide, by decide⟩ ⟨rfl, rfl, rfl, by omega, by omega, (by first | exact Or.inr ⟨by omega, by omega, by omega⟩ | exact Or.inl ⟨by omega, fun i hi => as1 i (by omega)⟩)⟩)
      · skip
        refine r_ld (pc' := 10) rfl rfl rfl rfl ?_
        refine r_ld (pc' := 12) rfl rfl rfl rfl ?_
        have hb5 := rd_T17 ht hw (i := x4.toNat) (by omega)
        refine r_la (pc' := 13) rfl rfl (sh_T17 ht) rfl (by omega) (by omega) rfl ?_
        refine r_ld (pc' := 14) rfl rfl rfl rfl ?_
        refine r_lne (pc' := 18) rfl rfl rfl ⟨by omega, by omega⟩ ⟨by omega, by omega⟩ (fun hc6 => ?_) (fun hc6 => ?_)
        · skip
          refine r_inc (pc' := 24) (lv' := [(0, _), (2, _), (3, _)]) rfl rfl rfl rfl rfl ?_
          refine r_go rfl ?_
          exact w_lv (sub_c rfl (sub_c rfl (sub_c rfl (sub_c rfl sub_n)))) rfl (ih0 (x4 + 1) ⟨by omega, by omega⟩ (by first | (intro i hi; exfalso; omega) | (intro i hi; by_cases c : i = x4.toNat; (rw [c]; omega); exact as1 i (by omega))) (by omega))
        · skip
          refine r_ld (pc' := 20) rfl rfl rfl rfl ?_
          exact r_ri rfl (po_I hst ⟨by omega, by omega⟩ ⟨rfl, rfl, rfl, by omega, by omega, (by first | exact Or.inr ⟨by omega, by omega, by omega⟩ | exact Or.inl ⟨by omega, fun i hi => as1 i (by omega)⟩)⟩)
  refine w_m rfl rfl ?_
  refine r_c0 (pc' := 1) rfl rfl ?_
  refine r_st (pc' := 3) (lv' := [(4, _), (0, _), (2, _), (3, _)]) rfl rfl rfl rfl ?_
  exact w_lv (sub_c rfl (sub_c rfl (sub_c rfl (sub_c rfl sub_n)))) rfl ((key ((17 * (6 - 0) + 14 : Int).toNat + 1)) 0 ⟨by omega, by omega⟩ (by first | (intro i hi; exfalso; omega) | (intro i hi; by_cases c : i = x4.toNat; (rw [c]; omega); exact as1 i (by omega))) (by omega))
/-- Told lineNamed -/
abbrev S_82x  : mS := []
abbrev E_82x (t : Nat) (a1 : Int) (z0 w0 : mZ) (x y tx it mt tt ct : Option Nat) : Int → mZ → mZ → mP → Prop := fun v z w p => p = (pq x y tx it mt tt ct) ∧ z0 = z ∧ w0 = w ∧ (-1) ≤ v ∧ v ≤ 7 ∧ ((v = -1 ∧ ∀ i : Nat, (i : Int) < z0 t 3 → w0 (t + 16) i ≠ a1) ∨ (0 ≤ v ∧ v < z0 t 3 ∧ w0 (t + 16) v.toNat = a1))
theorem m_82x {d : Nat} {z0 w0 : mZ} {x y tx it mt tt ct : Option Nat} (t : Nat) (a1 : Int) (hz : rz z0) (hw : rw_ w0) (ha1 : (-9223372036854775808) ≤ a1 ∧ a1 ≤ 9223372036854775807) (ht : isT t) : wc (d + 2) 82 [.ref t, .long (Int64.ofInt a1)] (mk z0 w0 (pq x y tx it mt tt ct)) (poI S_82x z0 w0 (E_82x t a1 z0 w0 x y tx it mt tt ct)) := by
  have hst : st_ S_82x z0 w0 z0 w0 := st_rf hz hw
  have htb : 159 ≤ t ∧ t ≤ 192 := by have := ht; unfold isT at this; omega
  have hz10 := rd_T_3 ht hz
  refine w_m rfl rfl ?_
  refine r_ld (pc' := 1) rfl rfl rfl rfl ?_
  refine r_ld (pc' := 2) rfl rfl rfl rfl ?_
  refine r_gr (b := t + 16) (pc' := 5) rfl rfl (sh_T ht) rfl (pp_T_12 ht) ?_
  refine r_ld (pc' := 6) rfl rfl rfl rfl ?_
  have hb11 := rd_T_3 ht hz
  refine r_gi (pc' := 9) rfl rfl (sh_T ht) rfl rfl ?_
  refine r_cSI (pc' := 12) rfl rfl rfl rfl rfl (m_84x (d := d) a1 t (z0 t 3) hst.1 hst.2.1 ⟨by omega, by omega⟩ ⟨by omega, by omega⟩ ht) (fun v12 z13 w14 p15 h16 hs17 hE18 => ?_)
  obtain ⟨rfl, rfl, rfl, hE18⟩ := hE18
  have hpl := hE18
  exact r_ri rfl (po_I hst ⟨by omega, by omega⟩ ⟨rfl, rfl, rfl, by omega, by omega, (by exact hpl.2.2)⟩)
/-- Told wordNamed -/
abbrev S_83x  : mS := []
abbrev E_83x (t : Nat) (a1 : Int) (z0 w0 : mZ) (x y tx it mt tt ct : Option Nat) : Int → mZ → mZ → mP → Prop := fun v z w p => p = (pq x y tx it mt tt ct) ∧ z0 = z ∧ w0 = w ∧ (-1) ≤ v ∧ v ≤ 5 ∧ ((v = -1 ∧ ∀ i : Nat, (i : Int) < z0 t 4 → w0 (t + 17) i ≠ a1) ∨ (0 ≤ v ∧ v < z0 t 4 ∧ w0 (t + 17) v.toNat = a1))
theorem m_83x {d : Nat} {z0 w0 : mZ} {x y tx it mt tt ct : Option Nat} (t : Nat) (a1 : Int) (hz : rz z0) (hw : rw_ w0) (ha1 : (-9223372036854775808) ≤ a1 ∧ a1 ≤ 9223372036854775807) (ht : isT t) : wc (d + 2) 83 [.ref t, .long (Int64.ofInt a1)] (mk z0 w0 (pq x y tx it mt tt ct)) (poI S_83x z0 w0 (E_83x t a1 z0 w0 x y tx it mt tt ct)) := by
  have hst : st_ S_83x z0 w0 z0 w0 := st_rf hz hw
  have htb : 159 ≤ t ∧ t ≤ 192 := by have := ht; unfold isT at this; omega
  have hz10 := rd_T_4 ht hz
  refine w_m rfl rfl ?_
  refine r_ld (pc' := 1) rfl rfl rfl rfl ?_
  refine r_ld (pc' := 2) rfl rfl rfl rfl ?_
  refine r_gr (b := t + 17) (pc' := 5) rfl rfl (sh_T ht) rfl (pp_T_13 ht) ?_
  refine r_ld (pc' := 6) rfl rfl rfl rfl ?_
  have hb11 := rd_T_4 ht hz
  refine r_gi (pc' := 9) rfl rfl (sh_T ht) rfl rfl ?_
  refine r_cSI (pc' := 12) rfl rfl rfl rfl rfl (m_84y (d := d) a1 t (z0 t 4) hst.1 hst.2.1 ⟨by omega, by omega⟩ ⟨by omega, by omega⟩ ht) (fun v12 z13 w14 p15 h16 hs17 hE18 => ?_)
  obtain ⟨rfl, rfl, rfl, hE18⟩ := hE18
  have hpl := hE18
  exact r_ri rfl (po_I hst ⟨by omega, by omega⟩ ⟨rfl, rfl, rfl, by omega, by omega, (by exact hpl.2.2)⟩)
/-- Reader readEdge -/
abbrev S_37x (t : Nat) : mS := [(t + 1, t + 1, 0, 35), (t + 6, t + 6, 0, 17), (t + 4, t + 4, 0, 17), (t + 5, t + 5, 0, 17), (3, 3, 6, 6), (3, 3, 8, 8), (3, 3, 7, 7), (3, 3, 9, 9), (3, 3, 10, 10), (3, 3, 0, 0), (3, 3, 1, 1)]
abbrev E_37x (t : Nat) (h : Int → Int) (a1 : Int) (z0 w0 : mZ) (x y mt tt ct : Option Nat) : Int → mZ → mZ → mP → Prop := fun v z w p => p = (pq x y (some 2) (some t) mt tt ct) ∧ 0 ≤ v ∧ v ≤ 1 ∧ ((v = 1 → (∃ k, CA h z w t k ∧ sq h k 0 = 1 ∧ sq h k 6 = a1 + 1 - 3 * z t 0) ∧ z 3 0 = z0 3 0 ∧ z 3 5 = 0 ∧ z t 0 = z0 t 0 ∧ z 3 1 = z0 3 1 ∧ z0 3 8 < z 3 8) ∧ (v = 0 → CF h z))
theorem m_37x {d : Nat} {z0 w0 : mZ} {x y mt tt ct : Option Nat} (t : Nat) (h : Int → Int) (a1 : Int) (hz : rz z0) (hw : rw_ w0) (ha1 : 0 ≤ a1 ∧ a1 ≤ 35) (ht : isT t) (hh : tc z0 = h) (hca : ∃ k, CA h z0 w0 t k ∧ sq h k 0 = 1 ∧ sq h k 6 = a1 - 3 * z0 t 0 ∧ (0 ≤ sq h k 6 ∧ sq h k 6 < 3)) (h50 : z0 3 5 = 0) (h11 : z0 t 0 ≤ 11) : wc (d + 4) 37 [.ref 3, .int (Int32.ofInt a1)] (mk z0 w0 (pq x y (some 2) (some t) mt tt ct)) (poI (S_37x t) z0 w0 (E_37x t h a1 z0 w0 x y mt tt ct)) := by
  have hst : st_ (S_37x t) z0 w0 z0 w0 := st_rf hz hw
  have htb : 159 ≤ t ∧ t ≤ 192 := by have := ht; unfold isT at this; omega
  have hz84 := rd_3_0 hz
  have hz85 := rd_3_1 hz
  have hz86 := rd_3_5 hz
  have hz87 := rd_3_8 hz
  have hz88 := rd_T_0 ht hz
  unfold CA TKc at hca
  obtain ⟨k, ⟨⟨e8, e0, e7, eN, eW, eE, e3⟩, hMC⟩, hm, h6, h63⟩ := hca
  have hz0 := rd_T_0 ht hz
  have hpi0 := hMC.2.1.2.2 (by have := hMC.1.1.2.2.2; omega)
  have hcs : cs (sq h k) = sq h k 6 := if_pos hm
  rw [hcs, ← hMC.1.1.1, h6, show 3 * z0 t 0 + (a1 - 3 * z0 t 0) = a1 by omega] at hpi0
  refine w_m rfl rfl ?_
  refine r_ld (pc' := 1) rfl rfl rfl rfl ?_
  have hb89 := rd_3_7 hz
  refine r_gi (pc' := 4) rfl rfl sh_3 rfl rfl ?_
  refine r_c0 (pc' := 5) rfl rfl ?_
  refine r_ieq (pc' := 8) rfl rfl ⟨by omega, by omega⟩ ⟨by decide, by decide⟩ (fun hc90 => ?_) (fun hc90 => ?_)
  · skip
    refine r_ld (pc' := 14) rfl rfl rfl rfl ?_
    have hb91 := rd_3_9 hz
    refine r_gi (pc' := 17) rfl rfl sh_3 rfl rfl ?_
    refine r_cb (pc' := 19) rfl (by decide) rfl ?_
    refine r_ilt (pc' := 22) rfl rfl ⟨by omega, by omega⟩ ⟨by decide, by decide⟩ (fun hc92 => ?_) (fun hc92 => ?_)
    · skip
      have hN := eN (by omega)
      refine r_ld (pc' := 34) rfl rfl rfl rfl ?_
      refine r_gr (b := t) (pc' := 37) rfl rfl sh_3 rfl pp_3_4 ?_
      refine r_gr (b := t + 4) (pc' := 40) rfl rfl (sh_T ht) rfl (pp_T_8 ht) ?_
      refine r_ld (pc' := 41) rfl rfl rfl rfl ?_
      refine r_gi (pc' := 44) rfl rfl sh_3 rfl rfl ?_
      have hb93 := rd_T4 ht hz (i := (z0 3 9).toNat) (by omega)
      refine r_ia (pc' := 45) rfl rfl (sh_T4 ht) rfl (by omega) (by omega) rfl ?_
      refine r_c0 (pc' := 46) rfl rfl ?_
      refine r_ilt (pc' := 49) rfl rfl ⟨by omega, by omega⟩ ⟨by decide, by decide⟩ (fun hc94 => ?_) (fun hc94 => ?_)
      · skip
        refine r_ld (pc' := 61) rfl rfl rfl rfl ?_
        refine r_gr (b := t) (pc' := 64) rfl rfl sh_3 rfl pp_3_4 ?_
        refine r_ld (pc' := 65) rfl rfl rfl rfl ?_
        refine r_ld (pc' := 66) rfl rfl rfl rfl ?_
        refine r_gi (pc' := 69) rfl rfl sh_3 rfl rfl ?_
        refine r_cVV (pc' := 72) rfl rfl rfl rfl rfl (sh_T ht) (m_75x (d := d + 2) t a1 (z0 3 9) hst.1 hst.2.1 ⟨by omega, by omega⟩ ⟨by omega, by omega⟩ ht (by first | omega | assumption) (by exact hpi0)) (fun z96 w97 p98 hs100 hE101 => ?_)
        have hs102 := st_tr hst hs100 (subS_c (fun _ _ _ _ _ _ => inS_0 (by omega) (by omega) (by omega) (by omega)) (subS_c (fun _ _ _ _ _ _ => inS_s (inS_0 (by omega) (by omega) (by omega) (by omega))) (subS_c (fun _ _ _ _ _ _ => inS_s (inS_s (inS_0 (by omega) (by omega) (by omega) (by omega)))) (subS_c (fun _ _ _ _ _ _ => inS_s (inS_s (inS_s (inS_0 (by omega) (by omega) (by omega) (by omega))))) subS_n))))
        obtain ⟨rfl, hE101⟩ := hE101
        have hte := hE101
        have hf0 : ∀ a i, a ≠ t + 1 → a ≠ t + 4 → a ≠ t + 5 → a ≠ t + 6 → z96 a i = z0 a i := fun a i h1 h4 h5 h6 => (hs100.2.2.1 _ _ (notS_c (by omega) (notS_c (by omega) (notS_c (by omega) (notS_c (by omega) notS_n)))))
        have hfw : ∀ a i, t + 8 ≤ a → a ≤ t + 17 → w97 a i = w0 a i := fun a i h1 h2 => (hs100.2.2.2 _ _ (notS_c (by omega) (notS_c (by omega) (notS_c (by omega) (notS_c (by omega) notS_n)))))
        refine r_ld (pc' := 73) rfl rfl rfl rfl ?_
        have hb103 := rd_3_6 hz
        have hf104 : z96 3 6 = z0 3 6 := (hs100.2.2.1 _ _ (notS_c (by omega) (notS_c (by omega) (notS_c (by omega) (notS_c (by omega) notS_n)))))
        have hb105 := rd_3_3 hz
        have hf106 : z96 3 3 = z0 3 3 := (hs100.2.2.1 _ _ (notS_c (by omega) (notS_c (by omega) (notS_c (by omega) (notS_c (by omega) notS_n)))))
        refine r_cVV (pc' := 76) rfl rfl rfl rfl rfl sh_3 (m_46x (d := d) t h hs102.1 hs102.2.1 ht (by exact (tc_f (fun i => hs102.2.2.1 2 i (notS_c (by omega) (notS_c (by omega) (notS_c (by omega) (notS_c (by omega) (notS_c (by omega) (notS_c (by omega) (notS_c (by omega) (notS_c (by omega) (notS_c (by omega) (notS_c (by omega) (notS_c (by omega) (notS_n))))))))))))) (hs102.2.2.1 3 3 (notS_c (by omega) (notS_c (by omega) (notS_c (by omega) (notS_c (by omega) (notS_c (by omega) (notS_c (by omega) (notS_c (by omega) (notS_c (by omega) (notS_c (by omega) (notS_c (by omega) (notS_c (by omega) (notS_n)))))))))))))).trans hh) (by first | omega | assumption | (simp only [hf104, hf106]; assumption))) (fun z108 w109 p110 hs112 hE113 => ?_)
        have hs114 := st_tr hs102 hs112 (subS_c (fun _ _ _ _ _ _ => inS_s (inS_s (inS_s (inS_s (inS_0 (by omega) (by omega) (by omega) (by omega)))))) (subS_c (fun _ _ _ _ _ _ => inS_s (inS_s (inS_s (inS_s (inS_s (inS_0 (by omega) (by omega) (by omega) (by omega))))))) (subS_c (fun _ _ _ _ _ _ => inS_s (inS_s (inS_s (inS_s (inS_s (inS_s (inS_0 (by omega) (by omega) (by omega) (by omega)))))))) (subS_c (fun _ _ _ _ _ _ => inS_s (inS_s (inS_s (inS_s (inS_s (inS_s (inS_s (inS_0 (by omega) (by omega) (by omega) (by omega))))))))) (subS_c (fun _ _ _ _ _ _ => inS_s (inS_s (inS_s (inS_s (inS_s (inS_s (inS_s (inS_s (inS_0 (by omega) (by omega) (by omega) (by omega)))))))))) subS_n)))))
        obtain ⟨rfl, hE113⟩ := hE113
        have hrt := hE113
        refine r_c0 (pc' := 77) rfl rfl ?_
        have hb115 := rd_T_0 ht hz
        have hf116 : z108 t 0 = z0 t 0 := ((hs112.2.2.1 _ _ (notS_c (by omega) (notS_c (by omega) (notS_c (by omega) (notS_c (by omega) (notS_c (by omega) notS_n)))))).trans (hs100.2.2.1 _ _ (notS_c (by omega) (notS_c (by omega) (notS_c (by omega) (notS_c (by omega) notS_n))))))
        have hb117 := rd_3_0 hz
        have hf118 : z108 3 0 = z0 3 0 := ((hs112.2.2.1 _ _ (notS_c (by omega) (notS_c (by omega) (notS_c (by omega) (notS_c (by omega) (notS_c (by omega) notS_n)))))).trans (hs100.2.2.1 _ _ (notS_c (by omega) (notS_c (by omega) (notS_c (by omega) (notS_c (by omega) notS_n))))))
        have hb119 := rd_3_5 hz
        have hf120 : z108 3 5 = z0 3 5 := ((hs112.2.2.1 _ _ (notS_c (by omega) (notS_c (by omega) (notS_c (by omega) (notS_c (by omega) (notS_c (by omega) notS_n)))))).trans (hs100.2.2.1 _ _ (notS_c (by omega) (notS_c (by omega) (notS_c (by omega) (notS_c (by omega) notS_n))))))
        have hb121 := rd_3_1 hz
        have hf122 : z108 3 1 = z0 3 1 := ((hs112.2.2.1 _ _ (notS_c (by omega) (notS_c (by omega) (notS_c (by omega) (notS_c (by omega) (notS_c (by omega) notS_n)))))).trans (hs100.2.2.1 _ _ (notS_c (by omega) (notS_c (by omega) (notS_c (by omega) (notS_c (by omega) notS_n))))))
        have hb123 := rd_3_8 hs114.1
        exact r_rz rfl (by omega) (po_I hs114 ⟨by decide, by decide⟩ ⟨rfl, by omega, by omega, (by refine ⟨fun _ => ?_, fun q => absurd q (by omega)⟩; have c9 := CA_e (nu := z0 3 9) (z1 := z96) (w1 := w97) (by omega) hMC hm h63 (by omega) (by omega) hN.1 (by omega) (by omega) hf0 (by rw [h6, show 3 * z0 t 0 + (a1 - 3 * z0 t 0) = a1 by omega]; exact hte.2.1) hte.2.2 (by rw [h6, show 3 * z0 t 0 + (a1 - 3 * z0 t 0) = a1 by omega]; exact hte.1) hfw ⟨fun a i ha => (hs112.2.2.1 _ _ (notS_c (by omega) (notS_c (by omega) (notS_c (by omega) (notS_c (by omega) (notS_c (by omega) notS_n)))))), (hs112.2.2.1 _ _ (notS_c (by omega) (notS_c (by omega) (notS_c (by omega) (notS_c (by omega) (notS_c (by omega) notS_n)))))), fun a i ha => (hs112.2.2.2 _ _ (notS_c (by omega) (notS_c (by omega) (notS_c (by omega) (notS_c (by omega) (notS_c (by omega) notS_n))))))⟩ (by rw [← (eE (by omega)).1, show z0 3 6 = z96 3 6 from (hf0 3 6 (by omega) (by omega) (by omega) (by omega)).symm]; exact hrt.1); have hgt := eE (by omega); have hm36 := hf0 3 6 (by omega) (by omega) (by omega) (by omega); exact ⟨⟨k + 1, c9.1, c9.2.1, by omega⟩, by omega, by omega, by omega, by omega, by omega⟩)⟩)
      · skip
        refine r_ld (pc' := 50) rfl rfl rfl rfl ?_
        refine r_c0 (pc' := 51) rfl rfl ?_
        refine r_ld (pc' := 52) rfl rfl rfl rfl ?_
        have hb124 := rd_3_8 hz
        refine r_gi (pc' := 55) rfl rfl sh_3 rfl rfl ?_
        refine r_cVV (pc' := 58) rfl rfl rfl rfl rfl sh_3 (m_33x (d := d + 2) 3 (z0 3 8) hst.1 hst.2.1 ⟨by omega, by omega⟩ ⟨by omega, by omega⟩) (fun z126 w127 p128 hs130 hE131 => ?_)
        have hs132 := st_tr hst hs130 (subS_c (fun _ _ _ _ _ _ => inS_s (inS_s (inS_s (inS_s (inS_s (inS_s (inS_s (inS_s (inS_s (inS_0 (by omega) (by omega) (by omega) (by omega))))))))))) (subS_c (fun _ _ _ _ _ _ => inS_s (inS_s (inS_s (inS_s (inS_s (inS_s (inS_s (inS_s (inS_s (inS_s (inS_0 (by omega) (by omega) (by omega) (by omega)))))))))))) subS_n))
        obtain ⟨rfl, hE131⟩ := hE131
        have hrg := hE131
        refine r_c0 (pc' := 59) rfl rfl ?_
        have hb133 := rd_T_0 ht hz
        have hf134 : z126 t 0 = z0 t 0 := (hs130.2.2.1 _ _ (notS_c (by omega) (notS_c (by omega) notS_n)))
        have hb135 := rd_3_0 hs132.1
        have hb136 := rd_3_5 hz
        have hf137 : z126 3 5 = z0 3 5 := (hs130.2.2.1 _ _ (notS_c (by omega) (notS_c (by omega) notS_n)))
        have hb138 := rd_3_1 hs132.1
        have hf139 : z126 3 8 = z0 3 8 := (hs130.2.2.1 _ _ (notS_c (by omega) (notS_c (by omega) notS_n)))
        exact r_rz rfl (by omega) (po_I hs132 ⟨by decide, by decide⟩ ⟨rfl, by omega, by omega, (by exact ⟨fun q => absurd q (by omega), fun _ => CF_i (f := 3) (a1_3 hm h63.2 (by omega) (by omega) (by rw [← hN.1, ← hMC.2.1.2.1 _ (by omega)]; omega)) (by omega) (by omega) (by omega)⟩)⟩)
    · skip
      refine r_ld (pc' := 23) rfl rfl rfl rfl ?_
      refine r_c0 (pc' := 24) rfl rfl ?_
      refine r_ld (pc' := 25) rfl rfl rfl rfl ?_
      have hb140 := rd_3_8 hz
      refine r_gi (pc' := 28) rfl rfl sh_3 rfl rfl ?_
      refine r_cVV (pc' := 31) rfl rfl rfl rfl rfl sh_3 (m_33x (d := d + 2) 4 (z0 3 8) hst.1 hst.2.1 ⟨by omega, by omega⟩ ⟨by omega, by omega⟩) (fun z142 w143 p144 hs146 hE147 => ?_)
      have hs148 := st_tr hst hs146 (subS_c (fun _ _ _ _ _ _ => inS_s (inS_s (inS_s (inS_s (inS_s (inS_s (inS_s (inS_s (inS_s (inS_0 (by omega) (by omega) (by omega) (by omega))))))))))) (subS_c (fun _ _ _ _ _ _ => inS_s (inS_s (inS_s (inS_s (inS_s (inS_s (inS_s (inS_s (inS_s (inS_s (inS_0 (by omega) (by omega) (by omega) (by omega)))))))))))) subS_n))
      obtain ⟨rfl, hE147⟩ := hE147
      have hrg := hE147
      refine r_c0 (pc' := 32) rfl rfl ?_
      have hb149 := rd_T_0 ht hz
      have hf150 : z142 t 0 = z0 t 0 := (hs146.2.2.1 _ _ (notS_c (by omega) (notS_c (by omega) notS_n)))
      have hb151 := rd_3_0 hs148.1
      have hb152 := rd_3_5 hz
      have hf153 : z142 3 5 = z0 3 5 := (hs146.2.2.1 _ _ (notS_c (by omega) (notS_c (by omega) notS_n)))
      have hb154 := rd_3_1 hs148.1
      have hf155 : z142 3 8 = z0 3 8 := (hs146.2.2.1 _ _ (notS_c (by omega) (notS_c (by omega) notS_n)))
      exact r_rz rfl (by omega) (po_I hs148 ⟨by decide, by decide⟩ ⟨rfl, by omega, by omega, (by have hN := eN (by omega); exact ⟨fun q => absurd q (by omega), fun _ => CF_i (f := 4) (a1_4 hm h63.2 (by omega) (by omega)) (by omega) (by omega) (by omega)⟩)⟩)
  · skip
    refine r_ld (pc' := 9) rfl rfl rfl rfl ?_
    have hb156 := rd_3_8 hz
    refine r_cVI (pc' := 12) rfl rfl rfl rfl rfl sh_3 (m_34x (d := d + 1)  hst.1 hst.2.1 ) (fun v157 z158 w159 p160 h161 hs162 hE163 => ?_)
    have hs164 := st_tr hst hs162 (subS_c (fun _ _ _ _ _ _ => inS_s (inS_s (inS_s (inS_s (inS_s (inS_s (inS_s (inS_s (inS_s (inS_0 (by omega) (by omega) (by omega) (by omega))))))))))) (subS_c (fun _ _ _ _ _ _ => inS_s (inS_s (inS_s (inS_s (inS_s (inS_s (inS_s (inS_s (inS_s (inS_s (inS_0 (by omega) (by omega) (by omega) (by omega)))))))))))) subS_n))
    obtain ⟨rfl, hE163⟩ := hE163
    have hrf := hE163
    have hb165 := rd_T_0 ht hz
    have hf166 : z158 t 0 = z0 t 0 := (hs162.2.2.1 _ _ (notS_c (by omega) (notS_c (by omega) notS_n)))
    have hb167 := rd_3_0 hs164.1
    have hb168 := rd_3_5 hz
    have hf169 : z158 3 5 = z0 3 5 := (hs162.2.2.1 _ _ (notS_c (by omega) (notS_c (by omega) notS_n)))
    have hb170 := rd_3_1 hs164.1
    have hf171 : z158 3 8 = z0 3 8 := (hs162.2.2.1 _ _ (notS_c (by omega) (notS_c (by omega) notS_n)))
    exact r_rz rfl (by omega) (po_I hs164 ⟨by omega, by omega⟩ ⟨rfl, by omega, by omega, (by exact ⟨fun q => absurd q (by omega), fun _ => CF_b (a1_b hm h63.2 (by omega)) (by rw [← e7]; exact hrf.2.2.2.1) (by omega)⟩)⟩)
/-- Reader passNewName -/
abbrev S_41x  : mS := [(3, 3, 6, 6), (3, 3, 8, 8), (3, 3, 7, 7), (3, 3, 9, 9), (3, 3, 10, 10), (3, 3, 0, 0), (3, 3, 1, 1)]
abbrev E_41x (t : Nat) (h : Int → Int) (a1 : Int) (z0 w0 : mZ) (x y mt tt ct : Option Nat) : Int → mZ → mZ → mP → Prop := fun v z w p => p = (pq x y (some 2) (some t) mt tt ct) ∧ 0 ≤ v ∧ v ≤ 1 ∧ ((v = 1 ∧ z0 3 7 = 1 ∧ a1 = -1 ∧ TKc h z w (ups h isB (tkE h (z0 3 8))) ∧ z 3 0 = z0 3 0 ∧ z 3 1 = z0 3 1 ∧ z0 3 8 < z 3 8) ∨ (v = 0 ∧ z0 3 7 ≠ 1 ∧ z 3 0 = (if z0 3 7 = 5 then 1 else 2) ∧ z 3 1 = z0 3 8) ∨ (v = 0 ∧ z0 3 7 = 1 ∧ a1 ≠ -1 ∧ z 3 0 = 3 ∧ z 3 1 = z0 3 8))
theorem m_41x {d : Nat} {z0 w0 : mZ} {x y mt tt ct : Option Nat} (t : Nat) (h : Int → Int) (a1 : Int) (hz : rz z0) (hw : rw_ w0) (ha1 : (-2147483648) ≤ a1 ∧ a1 ≤ 2147483647) (ht : isT t) (hh : tc z0 = h) (htk : TKc h z0 w0 (z0 3 8)) : wc (d + 4) 41 [.ref 3, .int (Int32.ofInt a1)] (mk z0 w0 (pq x y (some 2) (some t) mt tt ct)) (poI S_41x z0 w0 (E_41x t h a1 z0 w0 x y mt tt ct)) := by
  have hst : st_ S_41x z0 w0 z0 w0 := st_rf hz hw
  have htb : 159 ≤ t ∧ t ≤ 192 := by have := ht; unfold isT at this; omega
  have hz43 := rd_3_0 hz
  have hz44 := rd_3_1 hz
  have hz45 := rd_3_7 hz
  have hz46 := rd_3_8 hz
  have htq := htk
  unfold TKc at htq
  obtain ⟨e8, e0, e7, eN, eW, eE, e3⟩ := htq
  refine w_m rfl rfl ?_
  refine r_ld (pc' := 1) rfl rfl rfl rfl ?_
  have hb47 := rd_3_7 hz
  refine r_gi (pc' := 4) rfl rfl sh_3 rfl rfl ?_
  refine r_c0 (pc' := 5) rfl rfl ?_
  refine r_ieq (pc' := 8) rfl rfl ⟨by omega, by omega⟩ ⟨by decide, by decide⟩ (fun hc48 => ?_) (fun hc48 => ?_)
  · skip
    refine r_ld (pc' := 14) rfl rfl rfl rfl ?_
    refine r_c0 (pc' := 15) rfl rfl ?_
    refine r_ieq (pc' := 18) rfl rfl ⟨by omega, by omega⟩ ⟨by decide, by decide⟩ (fun hc49 => ?_) (fun hc49 => ?_)
    · skip
      refine r_ld (pc' := 30) rfl rfl rfl rfl ?_
      have hb50 := rd_3_6 hz
      have hb51 := rd_3_3 hz
      refine r_cVV (pc' := 33) rfl rfl rfl rfl rfl sh_3 (m_46x (d := d) t h hst.1 hst.2.1 ht (by exact (tc_f (fun i => hst.2.2.1 2 i (notS_c (by omega) (notS_c (by omega) (notS_c (by omega) (notS_c (by omega) (notS_c (by omega) (notS_c (by omega) (notS_c (by omega) (notS_n))))))))) (hst.2.2.1 3 3 (notS_c (by omega) (notS_c (by omega) (notS_c (by omega) (notS_c (by omega) (notS_c (by omega) (notS_c (by omega) (notS_c (by omega) (notS_n)))))))))).trans hh) (by first | omega | assumption)) (fun z53 w54 p55 hs57 hE58 => ?_)
      have hs59 := st_tr hst hs57 (sub_B rfl)
      obtain ⟨rfl, hE58⟩ := hE58
      have hrt := hE58
      refine r_c0 (pc' := 34) rfl rfl ?_
      have hb60 := rd_3_0 hz
      have hf61 : z53 3 0 = z0 3 0 := (hs57.2.2.1 _ _ (notS_c (by omega) (notS_c (by omega) (notS_c (by omega) (notS_c (by omega) (notS_c (by omega) notS_n))))))
      have hb62 := rd_3_1 hz
      have hf63 : z53 3 1 = z0 3 1 := (hs57.2.2.1 _ _ (notS_c (by omega) (notS_c (by omega) (notS_c (by omega) (notS_c (by omega) (notS_c (by omega) notS_n))))))
      have hb64 := rd_3_8 hs59.1
      exact r_rz rfl (by omega) (po_I hs59 ⟨by decide, by decide⟩ ⟨rfl, by omega, by omega, (by have hgt := eE (by omega); exact Or.inl ⟨by omega, by omega, by omega, by rw [← (eE (by omega)).1]; exact hrt.1, by omega, by omega, by omega⟩)⟩)
    · skip
      refine r_ld (pc' := 19) rfl rfl rfl rfl ?_
      refine r_c0 (pc' := 20) rfl rfl ?_
      refine r_ld (pc' := 21) rfl rfl rfl rfl ?_
      have hb65 := rd_3_8 hz
      refine r_gi (pc' := 24) rfl rfl sh_3 rfl rfl ?_
      refine r_cVV (pc' := 27) rfl rfl rfl rfl rfl sh_3 (m_33x (d := d + 2) 3 (z0 3 8) hst.1 hst.2.1 ⟨by omega, by omega⟩ ⟨by omega, by omega⟩) (fun z67 w68 p69 hs71 hE72 => ?_)
      have hs73 := st_tr hst hs71 (sub_B rfl)
      obtain ⟨rfl, hE72⟩ := hE72
      have hrg := hE72
      refine r_c0 (pc' := 28) rfl rfl ?_
      have hb74 := rd_3_0 hs73.1
      have hb75 := rd_3_1 hs73.1
      have hf76 : z67 3 8 = z0 3 8 := (hs71.2.2.1 _ _ (notS_c (by omega) (notS_c (by omega) notS_n)))
      exact r_rz rfl (by omega) (po_I hs73 ⟨by decide, by decide⟩ ⟨rfl, by omega, by omega, (by exact Or.inr (Or.inr ⟨by omega, by omega, by omega, by omega, by omega⟩))⟩)
  · skip
    refine r_ld (pc' := 9) rfl rfl rfl rfl ?_
    have hb77 := rd_3_8 hz
    refine r_cVI (pc' := 12) rfl rfl rfl rfl rfl sh_3 (m_34x (d := d + 1)  hst.1 hst.2.1 ) (fun v78 z79 w80 p81 h82 hs83 hE84 => ?_)
    have hs85 := st_tr hst hs83 (sub_B rfl)
    obtain ⟨rfl, hE84⟩ := hE84
    have hrf := hE84
    have hb86 := rd_3_0 hs85.1
    have hb87 := rd_3_1 hs85.1
    have hf88 : z79 3 8 = z0 3 8 := (hs83.2.2.1 _ _ (notS_c (by omega) (notS_c (by omega) notS_n)))
    exact r_rz rfl (by omega) (po_I hs85 ⟨by omega, by omega⟩ ⟨rfl, by omega, by omega, (by exact Or.inr (Or.inl ⟨by omega, by omega, hrf.2.2.2⟩))⟩)
/-- Reader pass -/
abbrev S_42x  : mS := [(3, 3, 6, 6), (3, 3, 8, 8), (3, 3, 7, 7), (3, 3, 9, 9), (3, 3, 10, 10), (3, 3, 0, 0), (3, 3, 1, 1)]
abbrev E_42x (t : Nat) (h : Int → Int) (a1 : Int) (z0 w0 : mZ) (x y mt tt ct : Option Nat) : Int → mZ → mZ → mP → Prop := fun v z w p => p = (pq x y (some 2) (some t) mt tt ct) ∧ 0 ≤ v ∧ v ≤ 1 ∧ ((v = 1 ∧ z0 3 7 = a1 ∧ TKc h z w (ups h isB (tkE h (z0 3 8))) ∧ z 3 0 = z0 3 0 ∧ z 3 1 = z0 3 1 ∧ z0 3 8 < z 3 8) ∨ (v = 0 ∧ z0 3 7 ≠ a1 ∧ z 3 0 = (if z0 3 7 = 5 then 1 else 2) ∧ z 3 1 = z0 3 8))
theorem m_42x {d : Nat} {z0 w0 : mZ} {x y mt tt ct : Option Nat} (t : Nat) (h : Int → Int) (a1 : Int) (hz : rz z0) (hw : rw_ w0) (ha1 : 3 ≤ a1 ∧ a1 ≤ 10) (ht : isT t) (hh : tc z0 = h) (htk : TKc h z0 w0 (z0 3 8)) (hw5 : a1 ≠ 5) : wc (d + 4) 42 [.ref 3, .int (Int32.ofInt a1)] (mk z0 w0 (pq x y (some 2) (some t) mt tt ct)) (poI S_42x z0 w0 (E_42x t h a1 z0 w0 x y mt tt ct)) := by
  have hst : st_ S_42x z0 w0 z0 w0 := st_rf hz hw
  have htb : 159 ≤ t ∧ t ≤ 192 := by have := ht; unfold isT at this; omega
  have hz30 := rd_3_0 hz
  have hz31 := rd_3_1 hz
  have hz32 := rd_3_7 hz
  have hz33 := rd_3_8 hz
  have htq := htk
  unfold TKc at htq
  obtain ⟨e8, e0, e7, eN, eW, eE, e3⟩ := htq
  refine w_m rfl rfl ?_
  refine r_ld (pc' := 1) rfl rfl rfl rfl ?_
  have hb34 := rd_3_7 hz
  refine r_gi (pc' := 4) rfl rfl sh_3 rfl rfl ?_
  refine r_ld (pc' := 5) rfl rfl rfl rfl ?_
  refine r_ieq (pc' := 8) rfl rfl ⟨by omega, by omega⟩ ⟨by omega, by omega⟩ (fun hc35 => ?_) (fun hc35 => ?_)
  · skip
    refine r_ld (pc' := 14) rfl rfl rfl rfl ?_
    have hb36 := rd_3_6 hz
    have hb37 := rd_3_3 hz
    refine r_cVV (pc' := 17) rfl rfl rfl rfl rfl sh_3 (m_46x (d := d) t h hst.1 hst.2.1 ht (by exact (tc_f (fun i => hst.2.2.1 2 i (notS_c (by omega) (notS_c (by omega) (notS_c (by omega) (notS_c (by omega) (notS_c (by omega) (notS_c (by omega) (notS_c (by omega) (notS_n))))))))) (hst.2.2.1 3 3 (notS_c (by omega) (notS_c (by omega) (notS_c (by omega) (notS_c (by omega) (notS_c (by omega) (notS_c (by omega) (notS_c (by omega) (notS_n)))))))))).trans hh) (by first | omega | assumption)) (fun z39 w40 p41 hs43 hE44 => ?_)
    have hs45 := st_tr hst hs43 (sub_B rfl)
    obtain ⟨rfl, hE44⟩ := hE44
    have hrt := hE44
    refine r_c0 (pc' := 18) rfl rfl ?_
    have hb46 := rd_3_0 hz
    have hf47 : z39 3 0 = z0 3 0 := (hs43.2.2.1 _ _ (notS_c (by omega) (notS_c (by omega) (notS_c (by omega) (notS_c (by omega) (notS_c (by omega) notS_n))))))
    have hb48 := rd_3_1 hz
    have hf49 : z39 3 1 = z0 3 1 := (hs43.2.2.1 _ _ (notS_c (by omega) (notS_c (by omega) (notS_c (by omega) (notS_c (by omega) (notS_c (by omega) notS_n))))))
    have hb50 := rd_3_8 hs45.1
    exact r_rz rfl (by omega) (po_I hs45 ⟨by decide, by decide⟩ ⟨rfl, by omega, by omega, (by have hgt := eE (by omega); exact Or.inl ⟨by omega, by omega, by rw [← (eE (by omega)).1]; exact hrt.1, by omega, by omega, by omega⟩)⟩)
  · skip
    refine r_ld (pc' := 9) rfl rfl rfl rfl ?_
    have hb51 := rd_3_8 hz
    refine r_cVI (pc' := 12) rfl rfl rfl rfl rfl sh_3 (m_34x (d := d + 1)  hst.1 hst.2.1 ) (fun v52 z53 w54 p55 h56 hs57 hE58 => ?_)
    have hs59 := st_tr hst hs57 (sub_B rfl)
    obtain ⟨rfl, hE58⟩ := hE58
    have hrf := hE58
    have hb60 := rd_3_0 hs59.1
    have hb61 := rd_3_1 hs59.1
    have hf62 : z53 3 8 = z0 3 8 := (hs57.2.2.1 _ _ (notS_c (by omega) (notS_c (by omega) notS_n)))
    exact r_rz rfl (by omega) (po_I hs59 ⟨by omega, by omega⟩ ⟨rfl, by omega, by omega, (by exact Or.inr ⟨by omega, by omega, hrf.2.2.2⟩)⟩)
/-- Reader readPiece -/
abbrev S_36x (t : Nat) : mS := [(3, 3, 6, 6), (3, 3, 8, 8), (3, 3, 7, 7), (3, 3, 9, 9), (3, 3, 10, 10), (3, 3, 0, 0), (3, 3, 1, 1), (t, t, 0, 0), (t + 1, t + 1, 0, 35), (t + 6, t + 6, 0, 17), (t + 4, t + 4, 0, 17), (t + 5, t + 5, 0, 17)]
abbrev E_36x (t : Nat) (h : Int → Int) (z0 w0 : mZ) (x y mt tt ct : Option Nat) : mZ → mZ → mP → Prop := fun z w p => p = (pq x y (some 2) (some t) mt tt ct) ∧ ((z 3 0 = 0 → CAz h z w t ∧ z 3 1 = z0 3 1 ∧ z0 3 8 < z 3 8) ∧ (z 3 0 ≠ 0 → CF h z))
theorem m_36x {d : Nat} {z0 w0 : mZ} {x y mt tt ct : Option Nat} (t : Nat) (h : Int → Int) (hz : rz z0) (hw : rw_ w0) (ht : isT t) (hh : tc z0 = h) (hca : ∃ k, CA h z0 w0 t k ∧ sq h k 0 = 0 ∧ tkK h (tp h k) = 6) (h00 : z0 3 0 = 0) : wc (d + 5) 36 [.ref 3] (mk z0 w0 (pq x y (some 2) (some t) mt tt ct)) (poV (S_36x t) z0 w0 (E_36x t h z0 w0 x y mt tt ct)) := by
  have hst : st_ (S_36x t) z0 w0 z0 w0 := st_rf hz hw
  have htb : 159 ≤ t ∧ t ≤ 192 := by have := ht; unfold isT at this; omega
  have hz78 := rd_3_0 hz
  have hz79 := rd_3_1 hz
  have hz80 := rd_3_5 hz
  have hz81 := rd_3_8 hz
  have hz82 := rd_T_0 ht hz
  unfold CA TKc at hca
  obtain ⟨k, ⟨⟨e8, e0, e7, eN, eW, eE, e3⟩, hMC⟩, hm, hK⟩ := hca
  have hz0 := rd_T_0 ht hz
  have hMA := hMC.1.1
  have key : ∀ N : Nat, (∀ (z w : mZ), st_ (S_36x t) z0 w0 z w → w 3 10 = w0 3 10 → z 3 0 = z0 3 0 → z 3 1 = z0 3 1 → z 3 6 = z0 3 6 → z 3 7 = z0 3 7 → z 3 8 = z0 3 8 → z 3 9 = z0 3 9 → z t 0 = z0 t 0 → (z0 3 5 ≠ 0 ∨ 12 ≤ z0 t 0) → 3 < (N : Int) → wp_ (d + 4) 36 3 none (21, [(0, .ref 3)], [], mk z w (pq x y (some 2) (some t) mt tt ct)) (poV (S_36x t) z0 w0 (E_36x t h z0 w0 x y mt tt ct))) ∧ (∀ (x1 x2 : Int) (z w : mZ), 0 ≤ x1 ∧ x1 ≤ 11 → 0 ≤ x2 ∧ x2 ≤ 3 → 0 ≤ z0 3 5 ∧ z0 3 5 ≤ 0 → 0 ≤ z0 t 0 ∧ z0 t 0 ≤ 11 → st_ (S_36x t) z0 w0 z w → z t 0 = z0 t 0 → (∃ k, CA h z w t k ∧ sq h k 0 = 1 ∧ sq h k 6 = x2) → (z t 0 = x1 ∧ x1 ≤ 11 ∧ z 3 5 = 0 ∧ z 3 0 = 0 ∧ z 3 1 = z0 3 1 ∧ z0 3 8 < z 3 8) → 44 * (3 - x2) + 29 < (N : Int) → wp_ (d + 4) 36 3 none (33, [(0, .ref 3), (1, .int (Int32.ofInt x1)), (2, .int (Int32.ofInt x2))], [], mk z w (pq x y (some 2) (some t) mt tt ct)) (poV (S_36x t) z0 w0 (E_36x t h z0 w0 x y mt tt ct))) := by
    intro N
    induction N with
    | zero =>
      refine ⟨?_, ?_⟩
      · intro  z w
        intros; exfalso; omega
      · intro x1 x2 z w
        intros; exfalso; omega
    | succ N ih =>
      obtain ⟨ih0, ih1⟩ := ih
      refine ⟨?_, ?_⟩
      · intro  z w  hst un_w_3_10 un_z_3_0 un_z_3_1 un_z_3_6 un_z_3_7 un_z_3_8 un_z_3_9 un_z_t_0 as1 hM
        refine r_ld (pc' := 22) rfl rfl rfl rfl ?_
        have hb83 := rd_3_7 hz
        have hf84 : z 3 7 = z0 3 7 := un_z_3_7
        have hb85 := rd_3_8 hz
        have hf86 : z 3 8 = z0 3 8 := un_z_3_8
        refine r_cVI (pc' := 25) rfl rfl rfl rfl rfl sh_3 (m_34x (d := d + 2)  hst.1 hst.2.1 ) (fun v87 z88 w89 p90 h91 hs92 hE93 => ?_)
        have hs94 := st_tr hst hs92 (subS_c (fun _ _ _ _ _ _ => inS_s (inS_s (inS_s (inS_s (inS_s (inS_0 (by omega) (by omega) (by omega) (by omega))))))) (subS_c (fun _ _ _ _ _ _ => inS_s (inS_s (inS_s (inS_s (inS_s (inS_s (inS_0 (by omega) (by omega) (by omega) (by omega)))))))) subS_n))
        obtain ⟨rfl, hE93⟩ := hE93
        have hrf := hE93
        refine r_al (pc' := 26) rfl rfl rfl rfl ?_
        have hb95 := rd_3_0 hs94.1
        have hb96 := rd_3_1 hs94.1
        have hf97 : z88 3 8 = z0 3 8 := ((hs92.2.2.1 _ _ (notS_c (by omega) (notS_c (by omega) notS_n))).trans un_z_3_8)
        have hb98 := rd_T_0 ht hz
        have hf99 : z88 t 0 = z0 t 0 := ((hs92.2.2.1 _ _ (notS_c (by omega) (notS_c (by omega) notS_n))).trans un_z_t_0)
        exact r_ret rfl (po_V hs94 ⟨rfl, (by exact ⟨fun q => absurd q (by rw [hrf.2.2.2.1]; split <;> omega), fun _ => CF_b (a0_p2 hm hK (by omega)) (by rw [← e7, ← un_z_3_7]; exact hrf.2.2.2.1) (by omega)⟩)⟩)
      · intro x1 x2 z w  hx1 hx2 hz0_0 hz0_1 hst un_z_t_0 as1 as2 hM
        refine r_ld (pc' := 34) rfl rfl rfl rfl ?_
        refine r_c0 (pc' := 35) rfl rfl ?_
        refine r_ige (pc' := 38) rfl rfl ⟨by omega, by omega⟩ ⟨by decide, by decide⟩ (fun hc100 => ?_) (fun hc100 => ?_)
        · skip
          obtain ⟨k, hcx, hm1, h61⟩ := as1
          have hcy := hcx
          unfold CA TKc at hcy
          obtain ⟨⟨f8, f0, f7, fN, fW, fE, f3⟩, hMD⟩ := hcy
          refine r_ld (pc' := 58) rfl rfl rfl rfl ?_
          refine r_c0 (pc' := 59) rfl rfl ?_
          have hb101 := rd_3_8 hst.1
          have hb102 := rd_3_7 hst.1
          have hb103 := rd_3_0 hst.1
          have hb104 := rd_3_1 hst.1
          refine r_cVI (pc' := 62) rfl rfl rfl rfl rfl sh_3 (m_42x (d := d) t h 3 hst.1 hst.2.1 ⟨by omega, by omega⟩ ht (by exact (tc_f (fun i => hst.2.2.1 2 i (notS_c (by omega) (notS_c (by omega) (notS_c (by omega) (notS_c (by omega) (notS_c (by omega) (notS_c (by omega) (notS_c (by omega) (notS_c (by omega) (notS_c (by omega) (notS_c (by omega) (notS_c (by omega) (notS_c (by omega) (notS_n)))))))))))))) (hst.2.2.1 3 3 (notS_c (by omega) (notS_c (by omega) (notS_c (by omega) (notS_c (by omega) (notS_c (by omega) (notS_c (by omega) (notS_c (by omega) (notS_c (by omega) (notS_c (by omega) (notS_c (by omega) (notS_c (by omega) (notS_c (by omega) (notS_n))))))))))))))).trans hh) (by rw [f8]; exact hcx.1) (by first | omega | assumption)) (fun v105 z106 w107 p108 h109 hs110 hE111 => ?_)
          have hs112 := st_tr hst hs110 (subS_c (fun _ _ _ _ _ _ => inS_0 (by omega) (by omega) (by omega) (by omega)) (subS_c (fun _ _ _ _ _ _ => inS_s (inS_0 (by omega) (by omega) (by omega) (by omega))) (subS_c (fun _ _ _ _ _ _ => inS_s (inS_s (inS_0 (by omega) (by omega) (by omega) (by omega)))) (subS_c (fun _ _ _ _ _ _ => inS_s (inS_s (inS_s (inS_0 (by omega) (by omega) (by omega) (by omega))))) (subS_c (fun _ _ _ _ _ _ => inS_s (inS_s (inS_s (inS_s (inS_0 (by omega) (by omega) (by omega) (by omega)))))) (subS_c (fun _ _ _ _ _ _ => inS_s (inS_s (inS_s (inS_s (inS_s (inS_0 (by omega) (by omega) (by omega) (by omega))))))) (subS_c (fun _ _ _ _ _ _ => inS_s (inS_s (inS_s (inS_s (inS_s (inS_s (inS_0 (by omega) (by omega) (by omega) (by omega)))))))) subS_n)))))))
          obtain ⟨rfl, hE111⟩ := hE111
          have hpa := hE111
          have hfr : Fr z w z106 w107 := ⟨fun a i ha => (hs110.2.2.1 _ _ (notS_c (by omega) (notS_c (by omega) (notS_c (by omega) (notS_c (by omega) (notS_c (by omega) (notS_c (by omega) (notS_c (by omega) notS_n)))))))), (hs110.2.2.1 _ _ (notS_c (by omega) (notS_c (by omega) (notS_c (by omega) (notS_c (by omega) (notS_c (by omega) (notS_c (by omega) (notS_c (by omega) notS_n)))))))), fun a i ha => (hs110.2.2.2 _ _ (notS_c (by omega) (notS_c (by omega) (notS_c (by omega) (notS_c (by omega) (notS_c (by omega) (notS_c (by omega) (notS_c (by omega) notS_n))))))))⟩
          refine r_zeq (pc' := 65) rfl rfl ⟨by omega, by omega⟩ (fun hc113 => ?_) (fun hc113 => ?_)
          · skip
            have hb114 := rd_3_0 hs112.1
            have hb115 := rd_3_1 hs112.1
            have hb116 := rd_3_8 hs112.1
            have hf117 : z106 t 0 = z0 t 0 := ((hs110.2.2.1 _ _ (notS_c (by omega) (notS_c (by omega) (notS_c (by omega) (notS_c (by omega) (notS_c (by omega) (notS_c (by omega) (notS_c (by omega) notS_n)))))))).trans un_z_t_0)
            exact r_ret rfl (po_V hs112 ⟨rfl, (by rcases hpa.2.2 with hp | hp; (first | (exfalso; omega) | (have c8 := CA_q (z1 := z106) (w1 := w107) (z' := z106) (by omega) hMD hm1 (by omega) (by omega) (by omega) hfr (by rw [← f8]; exact hp.2.2.1) (by have := hfr.1 t 0 (by omega); omega) (fun a i ha => rfl); exact ⟨fun _ => ⟨⟨k + 1, c8.1, c8.2⟩, by omega, by omega⟩, fun q => absurd (by omega) q⟩)); (first | (exfalso; omega) | exact ⟨fun q => absurd q (by rw [hp.2.2.1]; split <;> omega), fun _ => CF_b (a1_sb hm1 (by omega) (by omega)) (by rw [← f7]; exact hp.2.2.1) (by omega)⟩))⟩)
          · skip
            refine r_ld (pc' := 66) rfl rfl rfl rfl ?_
            refine r_gr (b := t) (pc' := 69) rfl rfl sh_3 rfl pp_3_4 ?_
            refine r_al (pc' := 70) rfl rfl rfl rfl ?_
            refine r_gi (pc' := 73) rfl rfl (sh_T ht) rfl ((hs110.2.2.1 _ _ (notS_c (by omega) (notS_c (by omega) (notS_c (by omega) (notS_c (by omega) (notS_c (by omega) (notS_c (by omega) (notS_c (by omega) notS_n)))))))).trans un_z_t_0) ?_
            refine r_c0 (pc' := 74) rfl rfl ?_
            refine r_add (pc' := 75) rfl rfl ?_
            refine r_pi (pc' := 78) rfl rfl (sh_T ht) rfl rfl hs112 (inS_s (inS_s (inS_s (inS_s (inS_s (inS_s (inS_s (inS_0 (by omega) (by omega) (by omega) (by omega))))))))) (wr_T_0 ht ⟨by omega, by omega⟩) (fun z118 hq119 hs120 => ?_)
            have hb121 := rd_3_0 hs112.1
            have hf122 : z118 3 0 = z106 3 0 := ((congrFun (congrFun hq119 _) _).trans (mu_ne (by omega)))
            have hb123 := rd_3_1 hs112.1
            have hf124 : z118 3 1 = z106 3 1 := ((congrFun (congrFun hq119 _) _).trans (mu_ne (by omega)))
            have hb125 := rd_3_8 hs112.1
            have hf126 : z118 3 8 = z106 3 8 := ((congrFun (congrFun hq119 _) _).trans (mu_ne (by omega)))
            have hf127 : z118 t 0 = (z0 t 0) + 1 := ((congrFun (congrFun hq119 _) _).trans mu_eq)
            exact r_ret rfl (po_V hs120 ⟨rfl, (by rcases hpa.2.2 with hp | hp; (first | (exfalso; omega) | (have c8 := CA_q (z1 := z106) (w1 := w107) (z' := z118) (by omega) hMD hm1 (by omega) (by omega) (by omega) hfr (by rw [← f8]; exact hp.2.2.1) (by have := hfr.1 t 0 (by omega); omega) (fun a i ha => ((congrFun (congrFun hq119 _) _).trans (mu_ne (by omega)))); exact ⟨fun _ => ⟨⟨k + 1, c8.1, c8.2⟩, by omega, by omega⟩, fun q => absurd (by omega) q⟩)); (first | (exfalso; omega) | exact ⟨fun q => absurd q (by rw [hp.2.2.1]; split <;> omega), fun _ => CF_b (a1_sb hm1 (by omega) (by omega)) (by rw [← f7]; exact hp.2.2.1) (by omega)⟩))⟩)
        · skip
          refine r_ld (pc' := 39) rfl rfl rfl rfl ?_
          refine r_c0 (pc' := 40) rfl rfl ?_
          refine r_ld (pc' := 41) rfl rfl rfl rfl ?_
          refine r_mul (pc' := 42) rfl rfl ?_
          refine r_ld (pc' := 43) rfl rfl rfl rfl ?_
          refine r_add (pc' := 44) rfl rfl ?_
          have hf128 : z t 0 = z0 t 0 := un_z_t_0
          have hf129 : z 3 5 = z0 3 5 := (hst.2.2.1 _ _ (notS_c (by omega) (notS_c (by omega) (notS_c (by omega) (notS_c (by omega) (notS_c (by omega) (notS_c (by omega) (notS_c (by omega) (notS_c (by omega) (notS_c (by omega) (notS_c (by omega) (notS_c (by omega) (notS_c (by omega) notS_n)))))))))))))
          have hb130 := rd_3_0 hst.1
          have hb131 := rd_3_1 hst.1
          have hb132 := rd_3_8 hst.1
          refine r_cVI (pc' := 47) rfl rfl rfl rfl rfl sh_3 (m_37x (d := d) t h ((3 * x1) + x2) hst.1 hst.2.1 ⟨by omega, by omega⟩ ht (by exact (tc_f (fun i => hst.2.2.1 2 i (notS_c (by omega) (notS_c (by omega) (notS_c (by omega) (notS_c (by omega) (notS_c (by omega) (notS_c (by omega) (notS_c (by omega) (notS_c (by omega) (notS_c (by omega) (notS_c (by omega) (notS_c (by omega) (notS_c (by omega) (notS_n)))))))))))))) (hst.2.2.1 3 3 (notS_c (by omega) (notS_c (by omega) (notS_c (by omega) (notS_c (by omega) (notS_c (by omega) (notS_c (by omega) (notS_c (by omega) (notS_c (by omega) (notS_c (by omega) (notS_c (by omega) (notS_c (by omega) (notS_c (by omega) (notS_n))))))))))))))).trans hh) (by obtain ⟨k, q1, q2, q3⟩ := as1; exact ⟨k, q1, q2, by omega, by omega, by omega⟩) (by first | omega | assumption | (simp only [hf128, hf129]; assumption)) (by first | omega | assumption | (simp only [hf128, hf129]; assumption))) (fun v133 z134 w135 p136 h137 hs138 hE139 => ?_)
          have hs140 := st_tr hst hs138 (subS_c (fun _ _ _ _ _ _ => inS_s (inS_s (inS_s (inS_s (inS_s (inS_s (inS_s (inS_s (inS_0 (by omega) (by omega) (by omega) (by omega)))))))))) (subS_c (fun _ _ _ _ _ _ => inS_s (inS_s (inS_s (inS_s (inS_s (inS_s (inS_s (inS_s (inS_s (inS_0 (by omega) (by omega) (by omega) (by omega))))))))))) (subS_c (fun _ _ _ _ _ _ => inS_s (inS_s (inS_s (inS_s (inS_s (inS_s (inS_s (inS_s (inS_s (inS_s (inS_0 (by omega) (by omega) (by omega) (by omega)))))))))))) (subS_c (fun _ _ _ _ _ _ => inS_s (inS_s (inS_s (inS_s (inS_s (inS_s (inS_s (inS_s (inS_s (inS_s (inS_s (inS_0 (by omega) (by omega) (by omega) (by omega))))))))))))) (subS_c (fun _ _ _ _ _ _ => inS_0 (by omega) (by omega) (by omega) (by omega)) (subS_c (fun _ _ _ _ _ _ => inS_s (inS_0 (by omega) (by omega) (by omega) (by omega))) (subS_c (fun _ _ _ _ _ _ => inS_s (inS_s (inS_0 (by omega) (by omega) (by omega) (by omega)))) (subS_c (fun _ _ _ _ _ _ => inS_s (inS_s (inS_s (inS_0 (by omega) (by omega) (by omega) (by omega))))) (subS_c (fun _ _ _ _ _ _ => inS_s (inS_s (inS_s (inS_s (inS_0 (by omega) (by omega) (by omega) (by omega)))))) (subS_c (fun _ _ _ _ _ _ => inS_s (inS_s (inS_s (inS_s (inS_s (inS_0 (by omega) (by omega) (by omega) (by omega))))))) (subS_c (fun _ _ _ _ _ _ => inS_s (inS_s (inS_s (inS_s (inS_s (inS_s (inS_0 (by omega) (by omega) (by omega) (by omega)))))))) subS_n)))))))))))
          obtain ⟨rfl, hE139⟩ := hE139
          have hre := hE139
          refine r_zne (pc' := 50) rfl rfl ⟨by omega, by omega⟩ (fun hc141 => ?_) (fun hc141 => ?_)
          · skip
            have hr2 := (hre.2.2.1 (by omega)).2
            refine r_inc (pc' := 54) (lv' := [(0, _), (1, _)]) rfl rfl rfl rfl rfl ?_
            refine r_go rfl ?_
            have hf142 : z134 t 0 = z0 t 0 := ((hs138.2.2.1 _ _ (notS_c (by omega) (notS_c (by omega) (notS_c (by omega) (notS_c (by omega) (notS_c (by omega) (notS_c (by omega) (notS_c (by omega) (notS_c (by omega) (notS_c (by omega) (notS_c (by omega) (notS_c (by omega) notS_n)))))))))))).trans un_z_t_0)
            have hf143 : z134 3 5 = z0 3 5 := ((hs138.2.2.1 _ _ (notS_c (by omega) (notS_c (by omega) (notS_c (by omega) (notS_c (by omega) (notS_c (by omega) (notS_c (by omega) (notS_c (by omega) (notS_c (by omega) (notS_c (by omega) (notS_c (by omega) (notS_c (by omega) notS_n)))))))))))).trans (hst.2.2.1 _ _ (notS_c (by omega) (notS_c (by omega) (notS_c (by omega) (notS_c (by omega) (notS_c (by omega) (notS_c (by omega) (notS_c (by omega) (notS_c (by omega) (notS_c (by omega) (notS_c (by omega) (notS_c (by omega) (notS_c (by omega) notS_n))))))))))))))
            have hb144 := rd_3_0 hs140.1
            have hb145 := rd_3_1 hs140.1
            have hb146 := rd_3_8 hs140.1
            exact w_lv (sub_c rfl (sub_c rfl (sub_c rfl sub_n))) rfl (ih1 x1 (x2 + 1) z134 w135 ⟨by omega, by omega⟩ ⟨by omega, by omega⟩ ⟨by omega, by omega⟩ ⟨by omega, by omega⟩ hs140 (((hs138.2.2.1 _ _ (notS_c (by omega) (notS_c (by omega) (notS_c (by omega) (notS_c (by omega) (notS_c (by omega) (notS_c (by omega) (notS_c (by omega) (notS_c (by omega) (notS_c (by omega) (notS_c (by omega) (notS_c (by omega) notS_n)))))))))))).trans un_z_t_0)) (by first | (obtain ⟨k, q1, q2, q3⟩ := (hre.2.2.1 (by omega)).1; exact ⟨k, q1, q2, by omega⟩) | exact ⟨k + 1, c9.1, c9.2.1, c9.2.2⟩) (by first | omega | assumption | (simp only [hf142, hf143]; assumption)) (by omega))
          · skip
            have hb147 := rd_3_0 hs140.1
            have hb148 := rd_3_1 hs140.1
            have hb149 := rd_3_8 hs140.1
            have hf150 : z134 t 0 = z0 t 0 := ((hs138.2.2.1 _ _ (notS_c (by omega) (notS_c (by omega) (notS_c (by omega) (notS_c (by omega) (notS_c (by omega) (notS_c (by omega) (notS_c (by omega) (notS_c (by omega) (notS_c (by omega) (notS_c (by omega) (notS_c (by omega) notS_n)))))))))))).trans un_z_t_0)
            exact r_ret rfl (po_V hs140 ⟨rfl, (by have c8 := hre.2.2.2 (by omega); exact ⟨fun q => absurd q (CF_n c8), fun _ => c8⟩)⟩)
  refine w_m rfl rfl ?_
  refine r_ld (pc' := 1) rfl rfl rfl rfl ?_
  refine r_gr (b := t) (pc' := 4) rfl rfl sh_3 rfl pp_3_4 ?_
  have hb151 := rd_T_0 ht hz
  refine r_gi (pc' := 7) rfl rfl (sh_T ht) rfl rfl ?_
  refine r_st (pc' := 8) (lv' := [(1, _), (0, _)]) rfl rfl rfl rfl ?_
  refine r_ld (pc' := 9) rfl rfl rfl rfl ?_
  have hb152 := rd_3_5 hz
  refine r_gi (pc' := 12) rfl rfl sh_3 rfl rfl ?_
  refine r_zne (pc' := 15) rfl rfl ⟨by omega, by omega⟩ (fun hc153 => ?_) (fun hc153 => ?_)
  · skip
    have hb154 := rd_3_10 hw
    have hb155 := rd_3_0 hz
    have hb156 := rd_3_1 hz
    have hb157 := rd_3_6 hz
    have hb158 := rd_3_7 hz
    have hb159 := rd_3_8 hz
    have hb160 := rd_3_9 hz
    exact w_lv (sub_c rfl sub_n) rfl ((key ((3 : Int).toNat + 1)).1 z0 w0 hst (rfl) (rfl) (rfl) (rfl) (rfl) (rfl) (rfl) (rfl) (by first | omega | assumption) (by omega))
  · skip
    refine r_ld (pc' := 16) rfl rfl rfl rfl ?_
    refine r_cb (pc' := 18) rfl (by decide) rfl ?_
    refine r_ilt (pc' := 21) rfl rfl ⟨by omega, by omega⟩ ⟨by decide, by decide⟩ (fun hc161 => ?_) (fun hc161 => ?_)
    · skip
      refine r_ld (pc' := 28) rfl rfl rfl rfl ?_
      have hb162 := rd_3_6 hz
      have hb163 := rd_3_3 hz
      refine r_cVV (pc' := 31) rfl rfl rfl rfl rfl sh_3 (m_46x (d := d + 1) t h hst.1 hst.2.1 ht (by exact (tc_f (fun i => hst.2.2.1 2 i (notS_c (by omega) (notS_c (by omega) (notS_c (by omega) (notS_c (by omega) (notS_c (by omega) (notS_c (by omega) (notS_c (by omega) (notS_c (by omega) (notS_c (by omega) (notS_c (by omega) (notS_c (by omega) (notS_c (by omega) (notS_n)))))))))))))) (hst.2.2.1 3 3 (notS_c (by omega) (notS_c (by omega) (notS_c (by omega) (notS_c (by omega) (notS_c (by omega) (notS_c (by omega) (notS_c (by omega) (notS_c (by omega) (notS_c (by omega) (notS_c (by omega) (notS_c (by omega) (notS_c (by omega) (notS_n))))))))))))))).trans hh) (by first | omega | assumption)) (fun z165 w166 p167 hs169 hE170 => ?_)
      have hs171 := st_tr hst hs169 (subS_c (fun _ _ _ _ _ _ => inS_0 (by omega) (by omega) (by omega) (by omega)) (subS_c (fun _ _ _ _ _ _ => inS_s (inS_0 (by omega) (by omega) (by omega) (by omega))) (subS_c (fun _ _ _ _ _ _ => inS_s (inS_s (inS_0 (by omega) (by omega) (by omega) (by omega)))) (subS_c (fun _ _ _ _ _ _ => inS_s (inS_s (inS_s (inS_0 (by omega) (by omega) (by omega) (by omega))))) (subS_c (fun _ _ _ _ _ _ => inS_s (inS_s (inS_s (inS_s (inS_0 (by omega) (by omega) (by omega) (by omega)))))) subS_n)))))
      obtain ⟨rfl, hE170⟩ := hE170
      have hrt := hE170
      have hfr : Fr z0 w0 z165 w166 := ⟨fun a i ha => (hs169.2.2.1 _ _ (notS_c (by omega) (notS_c (by omega) (notS_c (by omega) (notS_c (by omega) (notS_c (by omega) notS_n)))))), (hs169.2.2.1 _ _ (notS_c (by omega) (notS_c (by omega) (notS_c (by omega) (notS_c (by omega) (notS_c (by omega) notS_n)))))), fun a i ha => (hs169.2.2.2 _ _ (notS_c (by omega) (notS_c (by omega) (notS_c (by omega) (notS_c (by omega) (notS_c (by omega) notS_n))))))⟩
      have c9 := CA_p (by omega) hMC hm hK (by omega) (by omega) hfr (by rw [← (eE (by omega)).1]; exact hrt.1)
      have hgt := eE (by omega)
      refine r_c0 (pc' := 32) rfl rfl ?_
      refine r_st (pc' := 33) (lv' := [(2, _), (1, _), (0, _)]) rfl rfl rfl rfl ?_
      have hf172 : z165 t 0 = z0 t 0 := (hs169.2.2.1 _ _ (notS_c (by omega) (notS_c (by omega) (notS_c (by omega) (notS_c (by omega) (notS_c (by omega) notS_n))))))
      have hf173 : z165 3 5 = z0 3 5 := (hs169.2.2.1 _ _ (notS_c (by omega) (notS_c (by omega) (notS_c (by omega) (notS_c (by omega) (notS_c (by omega) notS_n))))))
      have hb174 := rd_3_0 hz
      have hf175 : z165 3 0 = z0 3 0 := (hs169.2.2.1 _ _ (notS_c (by omega) (notS_c (by omega) (notS_c (by omega) (notS_c (by omega) (notS_c (by omega) notS_n))))))
      have hb176 := rd_3_1 hz
      have hf177 : z165 3 1 = z0 3 1 := (hs169.2.2.1 _ _ (notS_c (by omega) (notS_c (by omega) (notS_c (by omega) (notS_c (by omega) (notS_c (by omega) notS_n))))))
      have hb178 := rd_3_8 hs171.1
      exact w_lv (sub_c rfl (sub_c rfl (sub_c rfl sub_n))) rfl ((key ((44 * (3 - 0) + 29 : Int).toNat + 1)).2 (z0 t 0) 0 z165 w166 ⟨by omega, by omega⟩ ⟨by omega, by omega⟩ ⟨by omega, by omega⟩ ⟨by omega, by omega⟩ hs171 ((hs169.2.2.1 _ _ (notS_c (by omega) (notS_c (by omega) (notS_c (by omega) (notS_c (by omega) (notS_c (by omega) notS_n))))))) (by first | (obtain ⟨k, q1, q2, q3⟩ := (hre.2.2.1 (by omega)).1; exact ⟨k, q1, q2, by omega⟩) | exact ⟨k + 1, c9.1, c9.2.1, c9.2.2⟩) (by first | omega | assumption | (simp only [hf172, hf173, hf175, hf177]; assumption)) (by omega))
    · skip
      have hb179 := rd_3_10 hw
      have hb180 := rd_3_0 hz
      have hb181 := rd_3_1 hz
      have hb182 := rd_3_6 hz
      have hb183 := rd_3_7 hz
      have hb184 := rd_3_8 hz
      have hb185 := rd_3_9 hz
      exact w_lv (sub_c rfl sub_n) rfl ((key ((3 : Int).toNat + 1)).1 z0 w0 hst (rfl) (rfl) (rfl) (rfl) (rfl) (rfl) (rfl) (rfl) (by first | omega | assumption) (by omega))
