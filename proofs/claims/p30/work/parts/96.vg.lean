/-! methods, printed by wip/tools/vcg.py -/
/-- Told clear -/
abbrev S_74p (t : Nat) : mS := [(t, t, 0, 0), (t, t, 1, 1), (t, t, 2, 2), (t, t, 3, 3), (t, t, 4, 4), (t + 4, t + 4, 0, 17), (t + 8, t + 15, 0, 17)]
abbrev E_74p (t : Nat) (z0 w0 : mZ) (x y tx it mt tt ct : Option Nat) : mZ → mZ → mP → Prop := fun z w p => p = (pq x y tx it mt tt ct) ∧ ((z t 0 = 0 ∧ z t 3 = 0 ∧ z t 2 = 0) ∧ ∀ e : Nat, e < 18 → z (t + 4) e = 0)
theorem m_74p {d : Nat} {z0 w0 : mZ} {x y tx it mt tt ct : Option Nat} (t : Nat) (hz : rz z0) (hw : rw_ w0) (ht : isT t) : wc (d + 1) 74 [.ref t] (mk z0 w0 (pq x y tx it mt tt ct)) (poV (S_74p t) z0 w0 (E_74p t z0 w0 x y tx it mt tt ct)) := by
  have hst : st_ (S_74p t) z0 w0 z0 w0 := st_rf hz hw
  have htb : 159 ≤ t ∧ t ≤ 192 := by have := ht; unfold isT at this; omega
  have key : ∀ N : Nat, (∀ (x1 : Int) (z w : mZ), 0 ≤ x1 ∧ x1 ≤ 18 → st_ (S_74p t) z0 w0 z w → (z t 0 = 0 ∧ z t 3 = 0 ∧ z t 2 = 0) → (∀ e : Nat, (e : Int) < x1 → z (t + 4) e = 0) → 49 * (18 - x1) + 10321 < (N : Int) → wp_ (d) 74 3 none (27, [(0, .ref t), (1, .int (Int32.ofInt x1))], [], mk z w (pq x y tx it mt tt ct)) (poV (S_74p t) z0 w0 (E_74p t z0 w0 x y tx it mt tt ct))) ∧ (∀ (x1 : Int) (z w : mZ), 0 ≤ x1 ∧ x1 ≤ 8 → st_ (S_74p t) z0 w0 z w → (z t 0 = 0 ∧ z t 3 = 0 ∧ z t 2 = 0) → (∀ e : Nat, e < 18 → z (t + 4) e = 0) → 1029 * (8 - x1) + 999 < (N : Int) → wp_ (d) 74 3 none (48, [(0, .ref t), (1, .int (Int32.ofInt x1))], [], mk z w (pq x y tx it mt tt ct)) (poV (S_74p t) z0 w0 (E_74p t z0 w0 x y tx it mt tt ct))) ∧ (∀ (x1 x2 : Int) (z w : mZ), 0 ≤ x1 ∧ x1 ≤ 7 → 0 ≤ x2 ∧ x2 ≤ 18 → st_ (S_74p t) z0 w0 z w → (z t 0 = 0 ∧ z t 3 = 0 ∧ z t 2 = 0) → (∀ e : Nat, e < 18 → z (t + 4) e = 0) → 1029 * (8 - x1) + 49 * (18 - x2) + 14 < (N : Int) → wp_ (d) 74 3 none (56, [(0, .ref t), (1, .int (Int32.ofInt x1)), (2, .int (Int32.ofInt x2))], [], mk z w (pq x y tx it mt tt ct)) (poV (S_74p t) z0 w0 (E_74p t z0 w0 x y tx it mt tt ct))) := by
    intro N
    induction N with
    | zero =>
      refine ⟨?_, ?_, ?_⟩
      · intro x1 z w
        intros; exfalso; omega
      · intro x1 z w
        intros; exfalso; omega
      · intro x1 x2 z w
        intros; exfalso; omega
    | succ N ih =>
      obtain ⟨ih0, ih1, ih2⟩ := ih
      refine ⟨?_, ?_, ?_⟩
      · intro x1 z w  hx1 hst as1 as2 hM
        refine r_ld (pc' := 28) rfl rfl rfl rfl ?_
        refine r_cb (pc' := 30) rfl (by decide) rfl ?_
        refine r_ige (pc' := 33) rfl rfl ⟨by omega, by omega⟩ ⟨by decide, by decide⟩ (fun hc28 => ?_) (fun hc28 => ?_)
        · skip
          refine r_c0 (pc' := 47) rfl rfl ?_
          refine r_st (pc' := 48) (lv' := [(1, _), (0, _)]) rfl rfl rfl rfl ?_
          have hb29 := rd_T_0 ht hst.1
          have hb30 := rd_T_3 ht hst.1
          have hb31 := rd_T_2 ht hst.1
          exact w_lv (sub_c rfl (sub_c rfl sub_n)) rfl (ih1 0 z w ⟨by omega, by omega⟩ hst (by first | omega | assumption) (by first | (intro e he; exact as2 e (by omega)) | (simp only []; exact as2)) (by omega))
        · skip
          refine r_ld (pc' := 34) rfl rfl rfl rfl ?_
          refine r_gr (b := t + 4) (pc' := 37) rfl rfl (sh_T ht) rfl (pp_T_8 ht) ?_
          refine r_ld (pc' := 38) rfl rfl rfl rfl ?_
          refine r_c0 (pc' := 39) rfl rfl ?_
          refine r_is (pc' := 40) rfl rfl (sh_T4 ht) rfl (by omega) (by omega) hst (inS_s (inS_s (inS_s (inS_s (inS_s (inS_0 (by omega) (by omega) (by omega) (by omega))))))) (wr_T4 ht ⟨by omega, by omega⟩) (fun z32 hq33 hs34 => ?_)
          refine r_inc (pc' := 43) (lv' := [(0, _)]) rfl rfl rfl rfl rfl ?_
          refine r_go rfl ?_
          have hb35 := rd_T_0 ht hst.1
          have hf36 : z32 t 0 = z t 0 := ((congrFun (congrFun hq33 _) _).trans (mu_ne (by omega)))
          have hb37 := rd_T_3 ht hst.1
          have hf38 : z32 t 3 = z t 3 := ((congrFun (congrFun hq33 _) _).trans (mu_ne (by omega)))
          have hb39 := rd_T_2 ht hst.1
          have hf40 : z32 t 2 = z t 2 := ((congrFun (congrFun hq33 _) _).trans (mu_ne (by omega)))
          exact w_lv (sub_c rfl (sub_c rfl sub_n)) rfl (ih0 (x1 + 1) z32 w ⟨by omega, by omega⟩ hs34 (by first | omega | assumption | (simp only [hf36, hf38, hf40]; assumption)) (by first | (intro e he; exfalso; omega) | (subst hq33; intro e he; by_cases k : (e : Int) = x1; (rw [show e = x1.toNat by omega]; exact mu_eq); (rw [mu_ne (by omega)]; exact as2 e (by omega)))) (by omega))
      · intro x1 z w  hx1 hst as1 as2 hM
        refine r_ld (pc' := 49) rfl rfl rfl rfl ?_
        refine r_cb (pc' := 51) rfl (by decide) rfl ?_
        refine r_ige (pc' := 54) rfl rfl ⟨by omega, by omega⟩ ⟨by decide, by decide⟩ (fun hc41 => ?_) (fun hc41 => ?_)
        · skip
          have hb42 := rd_T_0 ht hst.1
          have hb43 := rd_T_3 ht hst.1
          have hb44 := rd_T_2 ht hst.1
          exact r_ret rfl (po_V hst ⟨rfl, (by exact ⟨by omega, as2⟩)⟩)
        · skip
          refine r_c0 (pc' := 55) rfl rfl ?_
          refine r_st (pc' := 56) (lv' := [(2, _), (0, _), (1, _)]) rfl rfl rfl rfl ?_
          have hb45 := rd_T_0 ht hst.1
          have hb46 := rd_T_3 ht hst.1
          have hb47 := rd_T_2 ht hst.1
          exact w_lv (sub_c rfl (sub_c rfl (sub_c rfl sub_n))) rfl (ih2 x1 0 z w ⟨by omega, by omega⟩ ⟨by omega, by omega⟩ hst (by first | omega | assumption) (by first | exact as2 | (simp only []; exact as2)) (by omega))
      · intro x1 x2 z w  hx1 hx2 hst as1 as2 hM
        refine r_ld (pc' := 57) rfl rfl rfl rfl ?_
        refine r_cb (pc' := 59) rfl (by decide) rfl ?_
        refine r_ige (pc' := 62) rfl rfl ⟨by omega, by omega⟩ ⟨by decide, by decide⟩ (fun hc48 => ?_) (fun hc48 => ?_)
        · skip
          refine r_inc (pc' := 80) (lv' := [(0, _), (2, _)]) rfl rfl rfl rfl rfl ?_
          refine r_go rfl ?_
          have hb49 := rd_T_0 ht hst.1
          have hb50 := rd_T_3 ht hst.1
          have hb51 := rd_T_2 ht hst.1
          exact w_lv (sub_c rfl (sub_c rfl sub_n)) rfl (ih1 (x1 + 1) z w ⟨by omega, by omega⟩ hst (by first | omega | assumption) (by first | (intro e he; exact as2 e (by omega)) | (simp only []; exact as2)) (by omega))
        · skip
          refine r_ld (pc' := 63) rfl rfl rfl rfl ?_
          refine r_gr (b := t + 7) (pc' := 66) rfl rfl (sh_T ht) rfl (pp_T_11 ht) ?_
          refine r_ld (pc' := 67) rfl rfl rfl rfl ?_
          refine r_aa (b := t + 8 + x1.toNat) (pc' := 68) rfl rfl (sh_T7 ht) (Or.inl rfl) rfl (by omega) (by omega) (pa_T7 ht (by omega)) ?_
          refine r_ld (pc' := 69) rfl rfl rfl rfl ?_
          refine r_lc0 (pc' := 70) rfl rfl ?_
          refine r_ls (pc' := 71) rfl rfl (sh_T8 ht (by omega)) rfl (by omega) (by omega) hst (inS_s (inS_s (inS_s (inS_s (inS_s (inS_s (inS_0 (by omega) (by omega) (by omega) (by omega)))))))) (wr_T8 ht (k := x1.toNat) (by omega) ⟨by omega, by omega⟩) (fun w52 hq53 hs54 => ?_)
          refine r_inc (pc' := 74) (lv' := [(0, _), (1, _)]) rfl rfl rfl rfl rfl ?_
          refine r_go rfl ?_
          have hb55 := rd_T_0 ht hst.1
          have hb56 := rd_T_3 ht hst.1
          have hb57 := rd_T_2 ht hst.1
          exact w_lv (sub_c rfl (sub_c rfl (sub_c rfl sub_n))) rfl (ih2 x1 (x2 + 1) z w52 ⟨by omega, by omega⟩ ⟨by omega, by omega⟩ hs54 (by first | omega | assumption) (by first | exact as2 | (simp only []; exact as2)) (by omega))
  refine w_m rfl rfl ?_
  refine r_ld (pc' := 1) rfl rfl rfl rfl ?_
  refine r_c0 (pc' := 2) rfl rfl ?_
  refine r_pi (pc' := 5) rfl rfl (sh_T ht) rfl rfl hst (inS_0 (by omega) (by omega) (by omega) (by omega)) (wr_T_0 ht ⟨by omega, by omega⟩) (fun z58 hq59 hs60 => ?_)
  refine r_ld (pc' := 6) rfl rfl rfl rfl ?_
  refine r_c0 (pc' := 7) rfl rfl ?_
  refine r_pi (pc' := 10) rfl rfl (sh_T ht) rfl rfl hs60 (inS_s (inS_0 (by omega) (by omega) (by omega) (by omega))) (wr_T_1 ht ⟨by omega, by omega⟩) (fun z61 hq62 hs63 => ?_)
  refine r_ld (pc' := 11) rfl rfl rfl rfl ?_
  refine r_c0 (pc' := 12) rfl rfl ?_
  refine r_pi (pc' := 15) rfl rfl (sh_T ht) rfl rfl hs63 (inS_s (inS_s (inS_0 (by omega) (by omega) (by omega) (by omega)))) (wr_T_2 ht ⟨by omega, by omega⟩) (fun z64 hq65 hs66 => ?_)
  refine r_ld (pc' := 16) rfl rfl rfl rfl ?_
  refine r_c0 (pc' := 17) rfl rfl ?_
  refine r_pi (pc' := 20) rfl rfl (sh_T ht) rfl rfl hs66 (inS_s (inS_s (inS_s (inS_0 (by omega) (by omega) (by omega) (by omega))))) (wr_T_3 ht ⟨by omega, by omega⟩) (fun z67 hq68 hs69 => ?_)
  refine r_ld (pc' := 21) rfl rfl rfl rfl ?_
  refine r_c0 (pc' := 22) rfl rfl ?_
  refine r_pi (pc' := 25) rfl rfl (sh_T ht) rfl rfl hs69 (inS_s (inS_s (inS_s (inS_s (inS_0 (by omega) (by omega) (by omega) (by omega)))))) (wr_T_4 ht ⟨by omega, by omega⟩) (fun z70 hq71 hs72 => ?_)
  refine r_c0 (pc' := 26) rfl rfl ?_
  refine r_st (pc' := 27) (lv' := [(1, _), (0, _)]) rfl rfl rfl rfl ?_
  have hf73 : z70 t 0 = 0 := (((congrFun (congrFun hq71 _) _).trans (mu_ne (by omega))).trans (((congrFun (congrFun hq68 _) _).trans (mu_ne (by omega))).trans (((congrFun (congrFun hq65 _) _).trans (mu_ne (by omega))).trans (((congrFun (congrFun hq62 _) _).trans (mu_ne (by omega))).trans ((congrFun (congrFun hq59 _) _).trans mu_eq)))))
  have hf74 : z70 t 3 = 0 := (((congrFun (congrFun hq71 _) _).trans (mu_ne (by omega))).trans ((congrFun (congrFun hq68 _) _).trans mu_eq))
  have hf75 : z70 t 2 = 0 := (((congrFun (congrFun hq71 _) _).trans (mu_ne (by omega))).trans (((congrFun (congrFun hq68 _) _).trans (mu_ne (by omega))).trans ((congrFun (congrFun hq65 _) _).trans mu_eq)))
  exact w_lv (sub_c rfl (sub_c rfl sub_n)) rfl ((key ((49 * (18 - 0) + 10321 : Int).toNat + 1)).1 0 z70 w0 ⟨by omega, by omega⟩ hs72 (by first | omega | assumption | (simp only [hf73, hf74, hf75]; assumption)) (by first | (intro e he; exfalso; omega) | (subst hq59 hq62 hq65 hq68 hq71; intro e he; by_cases k : (e : Int) = x1; (rw [show e = x1.toNat by omega]; exact mu_eq); (rw [mu_ne (by omega)]; exact as2 e (by omega)))) (by omega))
/-- Told numberPoints -/
abbrev S_78p (t : Nat) : mS := [(t + 3, t + 3, 0, 35), (t, t, 2, 2)]
abbrev E_78p (t : Nat) (z0 w0 : mZ) (x y tx it mt tt ct : Option Nat) : mZ → mZ → mP → Prop := fun z w p => p = (pq x y tx it mt tt ct) ∧ (PQ (z0 (t + 2)) (3 * z0 t 0).toNat (3 * z0 t 0).toNat (z (t + 3)) (z t 2))
theorem m_78p {d : Nat} {z0 w0 : mZ} {x y tx it mt tt ct : Option Nat} (t : Nat) (hz : rz z0) (hw : rw_ w0) (ht : isT t) (h2 : z0 t 2 = 0) (hcl : ∀ s : Nat, (s : Int) < 3 * z0 t 0 → 0 ≤ z0 (t + 2) s ∧ z0 (t + 2) s < 3 * z0 t 0) : wc (d + 2) 78 [.ref t] (mk z0 w0 (pq x y tx it mt tt ct)) (poV (S_78p t) z0 w0 (E_78p t z0 w0 x y tx it mt tt ct)) := by
  have hst : st_ (S_78p t) z0 w0 z0 w0 := st_rf hz hw
  have htb : 159 ≤ t ∧ t ≤ 192 := by have := ht; unfold isT at this; omega
  have hz33 := rd_T_0 ht hz
  have hz34 := rd_T_2 ht hz
  have ht0 := rd_T_0 ht hz
  have key : ∀ N : Nat, (∀ (x1 x2 : Int) (z w : mZ), 0 ≤ x1 ∧ x1 ≤ 36 → 0 ≤ x2 ∧ x2 ≤ 36 → st_ (S_78p t) z0 w0 z w → z t 2 = z0 t 2 → (∀ i : Nat, (i : Int) < x2 → z (t + 3) i = -1) → (z t 2 = 0) → (x1 = 3 * z0 t 0) → 64 * (36 - x2) + 94904 < (N : Int) → wp_ (d + 1) 78 5 none (9, [(0, .ref t), (1, .int (Int32.ofInt x1)), (2, .int (Int32.ofInt x2))], [], mk z w (pq x y tx it mt tt ct)) (poV (S_78p t) z0 w0 (E_78p t z0 w0 x y tx it mt tt ct))) ∧ (∀ (x1 x2 : Int) (z w : mZ), 0 ≤ x1 ∧ x1 ≤ 36 → 0 ≤ x2 ∧ x2 ≤ 36 → st_ (S_78p t) z0 w0 z w → (PQ (z0 (t + 2)) (3 * z0 t 0).toNat x2.toNat (z (t + 3)) (z t 2)) → (x1 = 3 * z0 t 0 ∧ x2 ≤ x1) → 2496 * (36 - x2) + 2476 < (N : Int) → wp_ (d + 1) 78 5 none (29, [(0, .ref t), (1, .int (Int32.ofInt x1)), (2, .int (Int32.ofInt x2))], [], mk z w (pq x y tx it mt tt ct)) (poV (S_78p t) z0 w0 (E_78p t z0 w0 x y tx it mt tt ct))) ∧ (∀ (x1 x2 x3 x4 : Int) (z w : mZ), 1 ≤ x1 ∧ x1 ≤ 36 → 0 ≤ x2 ∧ x2 ≤ 35 → 0 ≤ x3 ∧ x3 ≤ 35 → 0 ≤ x4 ∧ x4 ≤ 36 → st_ (S_78p t) z0 w0 z w → (MI (z0 (t + 2)) (ptf (z0 (t + 2)) x2.toNat).2 (3 * z0 t 0).toNat (ptf (z0 (t + 2)) x2.toNat).1 x2.toNat x4 (z (t + 3)) x3) → (z t 2 = (ptf (z0 (t + 2)) x2.toNat).2) → (x1 = 3 * z0 t 0 ∧ x2 < x1) → ((ptf (z0 (t + 2)) x2.toNat).1 x2.toNat = -1) → 2496 * (36 - x2) + 64 * (36 - x4) + 31 < (N : Int) → wp_ (d + 1) 78 5 none (49, [(0, .ref t), (1, .int (Int32.ofInt x1)), (2, .int (Int32.ofInt x2)), (3, .int (Int32.ofInt x3)), (4, .int (Int32.ofInt x4))], [], mk z w (pq x y tx it mt tt ct)) (poV (S_78p t) z0 w0 (E_78p t z0 w0 x y tx it mt tt ct))) ∧ (∀ (x1 x2 : Int) (z w : mZ), 1 ≤ x1 ∧ x1 ≤ 36 → 0 ≤ x2 ∧ x2 ≤ 35 → st_ (S_78p t) z0 w0 z w → (∀ i : Nat, (i : Int) < 3 * z0 t 0 → z (t + 3) i = mkp (z0 (t + 2)) (z t 2) 36 (ptf (z0 (t + 2)) x2.toNat).1 x2.toNat i) → (z t 2 = (ptf (z0 (t + 2)) x2.toNat).2) → (x1 = 3 * z0 t 0 ∧ x2 < x1) → ((ptf (z0 (t + 2)) x2.toNat).1 x2.toNat = -1) → 2496 * (36 - x2) + 8 < (N : Int) → wp_ (d + 1) 78 5 none (91, [(0, .ref t), (1, .int (Int32.ofInt x1)), (2, .int (Int32.ofInt x2))], [], mk z w (pq x y tx it mt tt ct)) (poV (S_78p t) z0 w0 (E_78p t z0 w0 x y tx it mt tt ct))) := by
    intro N
    induction N with
    | zero =>
      refine ⟨?_, ?_, ?_, ?_⟩
      · intro x1 x2 z w
        intros; exfalso; omega
      · intro x1 x2 z w
        intros; exfalso; omega
      · intro x1 x2 x3 x4 z w
        intros; exfalso; omega
      · intro x1 x2 z w
        intros; exfalso; omega
    | succ N ih =>
      obtain ⟨ih0, ih1, ih2, ih3⟩ := ih
      refine ⟨?_, ?_, ?_, ?_⟩
      · intro x1 x2 z w  hx1 hx2 hst un_z_t_2 as1 as2 as3 hM
        refine r_ld (pc' := 10) rfl rfl rfl rfl ?_
        refine r_ld (pc' := 11) rfl rfl rfl rfl ?_
        refine r_ige (pc' := 14) rfl rfl ⟨by omega, by omega⟩ ⟨by omega, by omega⟩ (fun hc35 => ?_) (fun hc35 => ?_)
        · skip
          refine r_c0 (pc' := 28) rfl rfl ?_
          refine r_st (pc' := 29) (lv' := [(2, _), (0, _), (1, _)]) rfl rfl rfl rfl ?_
          have hb36 := rd_T_2 ht hz
          have hf37 : z t 2 = z0 t 2 := un_z_t_2
          exact w_lv (sub_c rfl (sub_c rfl (sub_c rfl sub_n))) rfl (ih1 x1 0 z w ⟨by omega, by omega⟩ ⟨by omega, by omega⟩ hst (by first | exact PQ_0 (fun i hi => as1 i (by omega)) (by omega) rfl | exact PQ_k as1 (by omega) (by omega) (by omega) | exact PQ_n as2 as4 (fun i hi => as1 i (by omega)) (funext fun i => rfl) (by omega) (by omega)) (by first | omega | assumption | (simp only [hf37]; assumption)) (by omega))
        · skip
          refine r_ld (pc' := 15) rfl rfl rfl rfl ?_
          refine r_gr (b := t + 3) (pc' := 18) rfl rfl (sh_T ht) rfl (pp_T_7 ht) ?_
          refine r_ld (pc' := 19) rfl rfl rfl rfl ?_
          refine r_c0 (pc' := 20) rfl rfl ?_
          refine r_is (pc' := 21) rfl rfl (sh_T3 ht) rfl (by omega) (by omega) hst (inS_0 (by omega) (by omega) (by omega) (by omega)) (wr_T3 ht ⟨by omega, by omega⟩) (fun z38 hq39 hs40 => ?_)
          have hq3 := hq39
          refine r_inc (pc' := 24) (lv' := [(0, _), (1, _)]) rfl rfl rfl rfl rfl ?_
          refine r_go rfl ?_
          have hb41 := rd_T_2 ht hz
          have hf42 : z38 t 2 = z0 t 2 := (((congrFun (congrFun hq39 _) _).trans (mu_ne (by omega))).trans un_z_t_2)
          exact w_lv (sub_c rfl (sub_c rfl (sub_c rfl sub_n))) rfl (ih0 x1 (x2 + 1) z38 w ⟨by omega, by omega⟩ ⟨by omega, by omega⟩ hs40 ((((congrFun (congrFun hq39 _) _).trans (mu_ne (by omega))).trans un_z_t_2)) (by first | (intro i hi; exfalso; omega) | (intro i hi; rw [hq3]; by_cases c : i = x2.toNat; (subst c; exact mu_eq); (rw [mu_ne (by omega)]; exact as1 i (by omega)))) (by first | omega | assumption | (simp only [hf42]; assumption)) (by first | omega | assumption | (simp only [hf42]; assumption)) (by omega))
      · intro x1 x2 z w  hx1 hx2 hst as1 as3 hM
        have hpb := PQ_b as1
        refine r_ld (pc' := 30) rfl rfl rfl rfl ?_
        refine r_ld (pc' := 31) rfl rfl rfl rfl ?_
        refine r_ige (pc' := 34) rfl rfl ⟨by omega, by omega⟩ ⟨by omega, by omega⟩ (fun hc43 => ?_) (fun hc43 => ?_)
        · skip
          have hb44 := rd_T_2 ht hst.1
          exact r_ret rfl (po_V hst ⟨rfl, (by have e9 : x2.toNat = (3 * z0 t 0).toNat := (by omega); rw [e9] at as1; exact as1)⟩)
        · skip
          refine r_ld (pc' := 35) rfl rfl rfl rfl ?_
          refine r_gr (b := t + 3) (pc' := 38) rfl rfl (sh_T ht) rfl (pp_T_7 ht) ?_
          refine r_ld (pc' := 39) rfl rfl rfl rfl ?_
          have hb45 := rd_T3 ht hst.1 (i := x2.toNat) (by omega)
          refine r_ia (pc' := 40) rfl rfl (sh_T3 ht) rfl (by omega) (by omega) rfl ?_
          refine r_c0 (pc' := 41) rfl rfl ?_
          refine r_ine (pc' := 44) rfl rfl ⟨by omega, by omega⟩ ⟨by decide, by decide⟩ (fun hc46 => ?_) (fun hc46 => ?_)
          · skip
            refine r_inc (pc' := 104) (lv' := [(0, _), (1, _)]) rfl rfl rfl rfl rfl ?_
            refine r_go rfl ?_
            have hb47 := rd_T_2 ht hst.1
            exact w_lv (sub_c rfl (sub_c rfl (sub_c rfl sub_n))) rfl (ih1 x1 (x2 + 1) z w ⟨by omega, by omega⟩ ⟨by omega, by omega⟩ hst (by first | exact PQ_0 (fun i hi => as1 i (by omega)) (by omega) rfl | exact PQ_k as1 (by omega) (by omega) (by omega) | exact PQ_n as2 as4 (fun i hi => as1 i (by omega)) (funext fun i => rfl) (by omega) (by omega)) (by first | omega | assumption) (by omega))
          · skip
            refine r_ld (pc' := 45) rfl rfl rfl rfl ?_
            refine r_st (pc' := 46) (lv' := [(3, _), (0, _), (1, _), (2, _)]) rfl rfl rfl rfl ?_
            refine r_c0 (pc' := 47) rfl rfl ?_
            refine r_st (pc' := 49) (lv' := [(4, _), (3, _), (0, _), (1, _), (2, _)]) rfl rfl rfl rfl ?_
            have hb48 := rd_T_2 ht hst.1
            exact w_lv (sub_c rfl (sub_c rfl (sub_c rfl (sub_c rfl (sub_c rfl sub_n))))) rfl (ih2 x1 x2 x2 0 z w ⟨by omega, by omega⟩ ⟨by omega, by omega⟩ ⟨by omega, by omega⟩ ⟨by omega, by omega⟩ hst (by first | exact MI_0 (fun i hi => as1.1 i hi) (by omega) (by omega) (by have q9 := as1.2; omega) (by omega) | exact MI_s as1 (by omega) (fun i hi => by rw [hq7, as2]; by_cases c : i = x3.toNat; (subst c; rw [if_pos rfl]; exact mu_eq); (rw [if_neg c, mu_ne (by omega)])) (by rw [hbh]) (by omega) (by omega) rfl) (by first | exact as1.2 | omega) (by first | omega | assumption) (by first | exact as4 | exact (as1.1 _ (by omega)).symm.trans (by omega)) (by omega))
      · intro x1 x2 x3 x4 z w  hx1 hx2 hx3 hx4 hst as1 as2 as3 as4 hM
        have hma := MI_a as1
        refine r_ld (pc' := 51) rfl rfl rfl rfl ?_
        refine r_ld (pc' := 52) rfl rfl rfl rfl ?_
        refine r_ige (pc' := 55) rfl rfl ⟨by omega, by omega⟩ ⟨by omega, by omega⟩ (fun hc49 => ?_) (fun hc49 => ?_)
        · skip
          have hb50 := rd_T_2 ht hst.1
          exact w_lv (sub_c rfl (sub_c rfl (sub_c rfl sub_n))) rfl (ih3 x1 x2 z w ⟨by omega, by omega⟩ ⟨by omega, by omega⟩ hst (by rw [as2]; exact fun i hi => MI_e as1 (by omega) i (by omega)) (by exact as2) (by first | omega | assumption) (by exact as4) (by omega))
        · skip
          refine r_ld (pc' := 56) rfl rfl rfl rfl ?_
          refine r_gr (b := t + 3) (pc' := 59) rfl rfl (sh_T ht) rfl (pp_T_7 ht) ?_
          refine r_ld (pc' := 60) rfl rfl rfl rfl ?_
          have hb51 := rd_T3 ht hst.1 (i := x3.toNat) (by omega)
          refine r_ia (pc' := 61) rfl rfl (sh_T3 ht) rfl (by omega) (by omega) rfl ?_
          refine r_c0 (pc' := 62) rfl rfl ?_
          refine r_ine (pc' := 65) rfl rfl ⟨by omega, by omega⟩ ⟨by decide, by decide⟩ (fun hc52 => ?_) (fun hc52 => ?_)
          · skip
            have hb53 := rd_T_2 ht hst.1
            exact w_lv (sub_c rfl (sub_c rfl (sub_c rfl sub_n))) rfl (ih3 x1 x2 z w ⟨by omega, by omega⟩ ⟨by omega, by omega⟩ hst (by rw [as2]; exact fun i hi => MI_e as1 (by omega) i (by omega)) (by exact as2) (by first | omega | assumption) (by exact as4) (by omega))
          · skip
            refine r_ld (pc' := 66) rfl rfl rfl rfl ?_
            refine r_gr (b := t + 3) (pc' := 69) rfl rfl (sh_T ht) rfl (pp_T_7 ht) ?_
            refine r_ld (pc' := 70) rfl rfl rfl rfl ?_
            refine r_ld (pc' := 71) rfl rfl rfl rfl ?_
            have hb54 := rd_T_2 ht hst.1
            refine r_gi (pc' := 74) rfl rfl (sh_T ht) rfl rfl ?_
            refine r_is (pc' := 75) rfl rfl (sh_T3 ht) rfl (by omega) (by omega) hst (inS_0 (by omega) (by omega) (by omega) (by omega)) (wr_T3 ht ⟨by omega, by omega⟩) (fun z55 hq56 hs57 => ?_)
            have hq7 := hq56
            refine r_ld (pc' := 76) rfl rfl rfl rfl ?_
            refine r_gr (b := t + 2) (pc' := 79) rfl rfl (sh_T ht) rfl (pp_T_6 ht) ?_
            refine r_ld (pc' := 80) rfl rfl rfl rfl ?_
            refine r_cSI (pc' := 83) rfl rfl rfl rfl rfl (m_143 (d := d) x3 hs57.1 hs57.2.1 ⟨by omega, by omega⟩) (fun v58 z59 w60 p61 h62 hs63 hE64 => ?_)
            obtain ⟨rfl, rfl, rfl, hE64⟩ := hE64
            have hbh := bh_v (x := x3) (v := v58) (by omega) hE64.2.2
            have hob := hcl v58.toNat (by rw [hbh]; unfold bh; split <;> omega)
            have hb66 := rd_T2 ht hz (i := v58.toNat) (by omega)
            refine r_ia (pc' := 84) rfl rfl (sh_T2 ht) rfl (by omega) (by omega) (((congrFun (congrFun hq56 _) _).trans (mu_ne (by omega))).trans (hst.2.2.1 _ _ (notS_c (by omega) (notS_c (by omega) notS_n)))) ?_
            refine r_st (pc' := 85) (lv' := [(3, _), (0, _), (1, _), (2, _), (4, _)]) rfl rfl rfl rfl ?_
            refine r_inc (pc' := 88) (lv' := [(3, _), (0, _), (1, _), (2, _)]) rfl rfl rfl rfl rfl ?_
            refine r_go rfl ?_
            have hf67 : z55 t 2 = z t 2 := ((congrFun (congrFun hq56 _) _).trans (mu_ne (by omega)))
            exact w_lv (sub_c rfl (sub_c rfl (sub_c rfl (sub_c rfl (sub_c rfl sub_n))))) rfl (ih2 x1 x2 (z0 (t + 2) v58.toNat) (x4 + 1) z55 w ⟨by omega, by omega⟩ ⟨by omega, by omega⟩ ⟨by omega, by omega⟩ ⟨by omega, by omega⟩ hs57 (by first | exact MI_0 (fun i hi => as1.1 i hi) (by omega) (by omega) (by have q9 := as1.2; omega) (by omega) | exact MI_s as1 (by omega) (fun i hi => by rw [hq7, as2]; by_cases c : i = x3.toNat; (subst c; rw [if_pos rfl]; exact mu_eq); (rw [if_neg c, mu_ne (by omega)])) (by rw [hbh]) (by omega) (by omega) rfl) (by first | exact as1.2 | omega) (by first | omega | assumption | (simp only [hf67]; assumption)) (by first | exact as4 | exact (as1.1 _ (by omega)).symm.trans (by omega)) (by omega))
      · intro x1 x2 z w  hx1 hx2 hst as1 as2 as3 as4 hM
        have hpb := ptf_b (z0 (t + 2)) x2.toNat
        refine r_ld (pc' := 92) rfl rfl rfl rfl ?_
        refine r_al (pc' := 93) rfl rfl rfl rfl ?_
        have hb68 := rd_T_2 ht hst.1
        refine r_gi (pc' := 96) rfl rfl (sh_T ht) rfl rfl ?_
        refine r_c0 (pc' := 97) rfl rfl ?_
        refine r_add (pc' := 98) rfl rfl ?_
        refine w_hxi (fun v69 h70 h71 => ?_)
        refine r_pi (pc' := 101) rfl rfl (sh_T ht) rfl rfl hst (inS_s (inS_0 (by omega) (by omega) (by omega) (by omega))) (wr_T_2 ht ⟨by omega, by omega⟩) (fun z72 hq73 hs74 => ?_)
        refine r_inc (pc' := 104) (lv' := [(0, _), (1, _)]) rfl rfl rfl rfl rfl ?_
        refine r_go rfl ?_
        have hf75 : z72 t 2 = v69 := ((congrFun (congrFun hq73 _) _).trans mu_eq)
        have hF76 : z72 (t + 3) = z (t + 3) := ((congrFun hq73 _).trans (mu_fn (by omega)))
        exact w_lv (sub_c rfl (sub_c rfl (sub_c rfl sub_n))) rfl (ih1 x1 (x2 + 1) z72 w ⟨by omega, by omega⟩ ⟨by omega, by omega⟩ hs74 (by first | exact PQ_0 (fun i hi => as1 i (by omega)) (by omega) rfl | exact PQ_k as1 (by omega) (by omega) (by omega) | exact PQ_n as2 as4 (fun i hi => as1 i (by omega)) (funext fun i => ((congrFun (congrFun hq73 _) _).trans (mu_ne (by omega)))) (by omega) (by omega)) (by first | omega | assumption | (simp only [hF76, hf75]; assumption)) (by omega))
  refine w_m rfl rfl ?_
  refine r_c0 (pc' := 1) rfl rfl ?_
  refine r_ld (pc' := 2) rfl rfl rfl rfl ?_
  have hb77 := rd_T_0 ht hz
  refine r_gi (pc' := 5) rfl rfl (sh_T ht) rfl rfl ?_
  refine r_mul (pc' := 6) rfl rfl ?_
  refine r_st (pc' := 7) (lv' := [(1, _), (0, _)]) rfl rfl rfl rfl ?_
  refine r_c0 (pc' := 8) rfl rfl ?_
  refine r_st (pc' := 9) (lv' := [(2, _), (1, _), (0, _)]) rfl rfl rfl rfl ?_
  have hb78 := rd_T_2 ht hz
  exact w_lv (sub_c rfl (sub_c rfl (sub_c rfl sub_n))) rfl ((key ((64 * (36 - 0) + 94904 : Int).toNat + 1)).1 (3 * (z0 t 0)) 0 z0 w0 ⟨by omega, by omega⟩ ⟨by omega, by omega⟩ hst (rfl) (by first | (intro i hi; exfalso; omega) | (intro i hi; rw [hq3]; by_cases c : i = x2.toNat; (subst c; exact mu_eq); (rw [mu_ne (by omega)]; exact as1 i (by omega)))) (by first | omega | assumption) (by first | omega | assumption) (by omega))
/-- Told glue -/
abbrev S_76p (t : Nat) : mS := [(t, t, 1, 1), (t + 3, t + 3, 0, 35), (t, t, 2, 2), (t + 2, t + 2, 0, 35)]
abbrev E_76p (t : Nat) (z0 w0 : mZ) (x y tx it mt tt ct : Option Nat) : Int → mZ → mZ → mP → Prop := fun v z w p => p = (pq x y tx it mt tt ct) ∧ 0 ≤ v ∧ v ≤ 1 ∧ ((v = 1 → WT (z t 0) (z t 1) (z (t + 1)) (z (t + 2)) (z (t + 5))) ∧ (v = 1 → PTz z t))
theorem m_76p {d : Nat} {z0 w0 : mZ} {x y tx it mt tt ct : Option Nat} (t : Nat) (hz : rz z0) (hw : rw_ w0) (ht : isT t) (hpi : PI (z0 (t + 1)) (z0 (t + 4)) (z0 (t + 5)) (z0 (t + 6)) (3 * z0 t 0)) (h2 : z0 t 2 = 0) : wc (d + 3) 76 [.ref t] (mk z0 w0 (pq x y tx it mt tt ct)) (poI (S_76p t) z0 w0 (E_76p t z0 w0 x y tx it mt tt ct)) := by
  have hst : st_ (S_76p t) z0 w0 z0 w0 := st_rf hz hw
  have htb : 159 ≤ t ∧ t ≤ 192 := by have := ht; unfold isT at this; omega
  have hz57 := rd_T_0 ht hz
  have hz58 := rd_T_2 ht hz
  have hz0 := rd_T_0 ht hz
  have key : ∀ N : Nat, (∀ (x1 x2 : Int) (z w : mZ), 0 ≤ x1 ∧ x1 ≤ 18 → 0 ≤ x2 ∧ x2 ≤ 18 → st_ (S_76p t) z0 w0 z w → z t 1 = z0 t 1 → z t 2 = z0 t 2 → (∀ e : Nat, (e : Int) < x2 → z0 (t + 4) e = 2 ∧ z (t + 2) (z0 (t + 5) e).toNat = z0 (t + 6) e ∧ z (t + 2) (z0 (t + 6) e).toNat = z0 (t + 5) e) → (z0 t 0 % 2 = 0 ∧ x1 = z0 t 0 / 2 * 3) → (z t 2 = 0) → 63 * (18 - x2) + 46 < (N : Int) → wp_ (d + 2) 76 3 (some .boolean) (22, [(0, .ref t), (1, .int (Int32.ofInt x1)), (2, .int (Int32.ofInt x2))], [], mk z w (pq x y tx it mt tt ct)) (poI (S_76p t) z0 w0 (E_76p t z0 w0 x y tx it mt tt ct))) := by
    intro N
    induction N with
    | zero =>
      intro x1 x2 z w
      intros; exfalso; omega
    | succ N ih =>
      have ih0 := ih; clear ih
      intro x1 x2 z w  hx1 hx2 hst un_z_t_1 un_z_t_2 as1 as2 as5 hM
      refine r_ld (pc' := 23) rfl rfl rfl rfl ?_
      refine r_ld (pc' := 24) rfl rfl rfl rfl ?_
      refine r_ige (pc' := 27) rfl rfl ⟨by omega, by omega⟩ ⟨by omega, by omega⟩ (fun hc59 => ?_) (fun hc59 => ?_)
      · skip
        refine r_ld (pc' := 80) rfl rfl rfl rfl ?_
        refine r_ld (pc' := 81) rfl rfl rfl rfl ?_
        refine r_pi (pc' := 84) rfl rfl (sh_T ht) rfl rfl hst (inS_0 (by omega) (by omega) (by omega) (by omega)) (wr_T_1 ht ⟨by omega, by omega⟩) (fun z60 hq61 hs62 => ?_)
        have hWT := WT_of (m := z0 t 0) (T := z0 (t + 1)) (tt := z0 (t + 4)) (fs := z0 (t + 5)) (ss := z0 (t + 6)) (o := z (t + 2)) (by omega) (by omega) (by omega) (fun s hs => by have := rd_T1 ht hz (i := s) (by omega); omega) hpi (fun e he => (as1 e (by omega)).1) (fun e he => (as1 e (by omega)).2)
        refine r_ld (pc' := 85) rfl rfl rfl rfl ?_
        refine r_cVI (pc' := 88) rfl rfl rfl rfl rfl (sh_T ht) (m_77 (d := d + 1) t hs62.1 hs62.2.1 ht) (fun v63 z64 w65 p66 h67 hs68 hE69 => ?_)
        obtain ⟨rfl, rfl, rfl, hE69⟩ := hE69
        refine r_zne (pc' := 91) rfl rfl ⟨by omega, by omega⟩ (fun hc71 => ?_) (fun hc71 => ?_)
        · skip
          refine r_ld (pc' := 94) rfl rfl rfl rfl ?_
          have hb72 := rd_T_2 ht hz
          have hf73 : z60 t 2 = z0 t 2 := (((congrFun (congrFun hq61 _) _).trans (mu_ne (by omega))).trans un_z_t_2)
          have hb74 := rd_T_0 ht hz
          have hf75 : z60 t 0 = z0 t 0 := (((congrFun (congrFun hq61 _) _).trans (mu_ne (by omega))).trans (hst.2.2.1 _ _ (notS_c (by omega) (notS_c (by omega) (notS_c (by omega) (notS_c (by omega) notS_n))))))
          have hF76 : z60 (t + 2) = z (t + 2) := ((congrFun hq61 _).trans (mu_fn (by omega)))
          refine r_cVV (pc' := 97) rfl rfl rfl rfl rfl (sh_T ht) (m_78p (d := d) t hs62.1 hs62.2.1 ht (by exact (((congrFun (congrFun hq61 _) _).trans (mu_ne (by omega)))).trans as5) (by rw [show z60 t 0 = z0 t 0 from (((congrFun (congrFun hq61 _) _).trans (mu_ne (by omega))).trans (hst.2.2.1 _ _ (notS_c (by omega) (notS_c (by omega) (notS_c (by omega) (notS_c (by omega) notS_n))))))]; intro s hs; rw [show z60 (t + 2) s = z (t + 2) s from ((congrFun (congrFun hq61 _) _).trans (mu_ne (by omega)))]; exact hWT.oL s hs)) (fun z78 w79 p80 hs82 hE83 => ?_)
          have hs84 := st_tr hs62 hs82 (subS_c (fun _ _ _ _ _ _ => inS_s (inS_0 (by omega) (by omega) (by omega) (by omega))) (subS_c (fun _ _ _ _ _ _ => inS_s (inS_s (inS_0 (by omega) (by omega) (by omega) (by omega)))) subS_n))
          obtain ⟨rfl, hE83⟩ := hE83
          have hnp := hE83
          refine r_c0 (pc' := 98) rfl rfl ?_
          have hf85 : z78 t 0 = z0 t 0 := ((hs82.2.2.1 _ _ (notS_c (by omega) (notS_c (by omega) notS_n))).trans (((congrFun (congrFun hq61 _) _).trans (mu_ne (by omega))).trans (hst.2.2.1 _ _ (notS_c (by omega) (notS_c (by omega) (notS_c (by omega) (notS_c (by omega) notS_n)))))))
          have hf86 : z78 t 1 = x1 := ((hs82.2.2.1 _ _ (notS_c (by omega) (notS_c (by omega) notS_n))).trans ((congrFun (congrFun hq61 _) _).trans mu_eq))
          have hF87 : z78 (t + 1) = z0 (t + 1) := ((funext fun _ => hs82.2.2.1 _ _ (notS_c (by omega) (notS_c (by omega) notS_n))).trans (((congrFun hq61 _).trans (mu_fn (by omega))).trans (funext fun _ => hst.2.2.1 _ _ (notS_c (by omega) (notS_c (by omega) (notS_c (by omega) (notS_c (by omega) notS_n)))))))
          have hF88 : z78 (t + 2) = z (t + 2) := ((funext fun _ => hs82.2.2.1 _ _ (notS_c (by omega) (notS_c (by omega) notS_n))).trans ((congrFun hq61 _).trans (mu_fn (by omega))))
          have hF89 : z78 (t + 5) = z0 (t + 5) := ((funext fun _ => hs82.2.2.1 _ _ (notS_c (by omega) (notS_c (by omega) notS_n))).trans (((congrFun hq61 _).trans (mu_fn (by omega))).trans (funext fun _ => hst.2.2.1 _ _ (notS_c (by omega) (notS_c (by omega) (notS_c (by omega) (notS_c (by omega) notS_n)))))))
          exact r_rz rfl (by omega) (po_I hs84 ⟨by decide, by decide⟩ ⟨rfl, by omega, by omega, (by constructor; (first | (intro h; exfalso; omega) | (intro _; have q := WT_of (m := z0 t 0) (T := z0 (t + 1)) (tt := z0 (t + 4)) (fs := z0 (t + 5)) (ss := z0 (t + 6)) (o := z (t + 2)) (by omega) (by omega) (by omega) (fun s hs => by have := rd_T1 ht hz (i := s) (by omega); omega) hpi (fun e he => (as1 e (by omega)).1) (fun e he => (as1 e (by omega)).2); simp only [hF87, hF88, hF89, hf85, hf86]; rw [as2.2]; exact q)); (first | (intro h; exfalso; omega) | (intro _; unfold PTz; rw [show z78 (t + 2) = z60 (t + 2) from funext fun i => (hs82.2.2.1 _ _ (notS_c (by omega) (notS_c (by omega) notS_n))), show z78 t 0 = z60 t 0 from (hs82.2.2.1 _ _ (notS_c (by omega) (notS_c (by omega) notS_n)))]; refine ⟨hnp, fun e he => ?_⟩; rw [show z60 t 0 = z0 t 0 from ((hs82.2.2.1 _ _ (notS_c (by omega) (notS_c (by omega) notS_n)))).symm.trans (((hs82.2.2.1 _ _ (notS_c (by omega) (notS_c (by omega) notS_n))).trans (((congrFun (congrFun hq61 _) _).trans (mu_ne (by omega))).trans (hst.2.2.1 _ _ (notS_c (by omega) (notS_c (by omega) (notS_c (by omega) (notS_c (by omega) notS_n))))))))] at he; rw [show z78 (t + 5) e = z0 (t + 5) e from ((hs82.2.2.1 _ _ (notS_c (by omega) (notS_c (by omega) notS_n))).trans (((congrFun (congrFun hq61 _) _).trans (mu_ne (by omega))).trans (hst.2.2.1 _ _ (notS_c (by omega) (notS_c (by omega) (notS_c (by omega) (notS_c (by omega) notS_n))))))), show z60 (t + 2) (z0 (t + 5) e).toNat = z (t + 2) (z0 (t + 5) e).toNat from ((hs82.2.2.1 _ _ (notS_c (by omega) (notS_c (by omega) notS_n)))).symm.trans (((hs82.2.2.1 _ _ (notS_c (by omega) (notS_c (by omega) notS_n))).trans ((congrFun (congrFun hq61 _) _).trans (mu_ne (by omega))))), (as1 e (by omega)).2.1]; exact ((hpi.2 e (by omega)).2.2.2.2 (as1 e (by omega)).1).2.1)))⟩)
        · skip
          refine r_c0 (pc' := 92) rfl rfl ?_
          have hb90 := rd_T_0 ht hz
          have hf91 : z60 t 0 = z0 t 0 := (((congrFun (congrFun hq61 _) _).trans (mu_ne (by omega))).trans (hst.2.2.1 _ _ (notS_c (by omega) (notS_c (by omega) (notS_c (by omega) (notS_c (by omega) notS_n))))))
          have hf92 : z60 t 1 = x1 := ((congrFun (congrFun hq61 _) _).trans mu_eq)
          have hF93 : z60 (t + 1) = z0 (t + 1) := (((congrFun hq61 _).trans (mu_fn (by omega))).trans (funext fun _ => hst.2.2.1 _ _ (notS_c (by omega) (notS_c (by omega) (notS_c (by omega) (notS_c (by omega) notS_n))))))
          have hF94 : z60 (t + 2) = z (t + 2) := ((congrFun hq61 _).trans (mu_fn (by omega)))
          have hF95 : z60 (t + 5) = z0 (t + 5) := (((congrFun hq61 _).trans (mu_fn (by omega))).trans (funext fun _ => hst.2.2.1 _ _ (notS_c (by omega) (notS_c (by omega) (notS_c (by omega) (notS_c (by omega) notS_n))))))
          exact r_rz rfl (by omega) (po_I hs62 ⟨by decide, by decide⟩ ⟨rfl, by omega, by omega, (by constructor; (first | (intro h; exfalso; omega) | (intro _; have q := WT_of (m := z0 t 0) (T := z0 (t + 1)) (tt := z0 (t + 4)) (fs := z0 (t + 5)) (ss := z0 (t + 6)) (o := z (t + 2)) (by omega) (by omega) (by omega) (fun s hs => by have := rd_T1 ht hz (i := s) (by omega); omega) hpi (fun e he => (as1 e (by omega)).1) (fun e he => (as1 e (by omega)).2); simp only [hF93, hF94, hF95, hf91, hf92]; rw [as2.2]; exact q)); (first | (intro h; exfalso; omega) | (intro _; unfold PTz; rw [show z60 (t + 2) = z60 (t + 2) from funext fun i => rfl, show z60 t 0 = z60 t 0 from rfl]; refine ⟨hnp, fun e he => ?_⟩; rw [show z60 t 0 = z0 t 0 from (rfl).symm.trans ((((congrFun (congrFun hq61 _) _).trans (mu_ne (by omega))).trans (hst.2.2.1 _ _ (notS_c (by omega) (notS_c (by omega) (notS_c (by omega) (notS_c (by omega) notS_n)))))))] at he; rw [show z60 (t + 5) e = z0 (t + 5) e from (((congrFun (congrFun hq61 _) _).trans (mu_ne (by omega))).trans (hst.2.2.1 _ _ (notS_c (by omega) (notS_c (by omega) (notS_c (by omega) (notS_c (by omega) notS_n)))))), show z60 (t + 2) (z0 (t + 5) e).toNat = z (t + 2) (z0 (t + 5) e).toNat from (rfl).symm.trans (((congrFun (congrFun hq61 _) _).trans (mu_ne (by omega)))), (as1 e (by omega)).2.1]; exact ((hpi.2 e (by omega)).2.2.2.2 (as1 e (by omega)).1).2.1)))⟩)
      · skip
        refine r_ld (pc' := 28) rfl rfl rfl rfl ?_
        refine r_gr (b := t + 4) (pc' := 31) rfl rfl (sh_T ht) rfl (pp_T_8 ht) ?_
        refine r_ld (pc' := 32) rfl rfl rfl rfl ?_
        have hb96 := rd_T4 ht hz (i := x2.toNat) (by omega)
        refine r_ia (pc' := 33) rfl rfl (sh_T4 ht) rfl (by omega) (by omega) (hst.2.2.1 _ _ (notS_c (by omega) (notS_c (by omega) (notS_c (by omega) (notS_c (by omega) notS_n))))) ?_
        refine r_c0 (pc' := 34) rfl rfl ?_
        refine r_ieq (pc' := 37) rfl rfl ⟨by omega, by omega⟩ ⟨by decide, by decide⟩ (fun hc97 => ?_) (fun hc97 => ?_)
        · skip
          have hfs := (hpi.2 x2.toNat (by omega)).2.2.2.2 (by omega)
          refine r_ld (pc' := 40) rfl rfl rfl rfl ?_
          refine r_gr (b := t + 2) (pc' := 43) rfl rfl (sh_T ht) rfl (pp_T_6 ht) ?_
          refine r_ld (pc' := 44) rfl rfl rfl rfl ?_
          refine r_gr (b := t + 5) (pc' := 47) rfl rfl (sh_T ht) rfl (pp_T_9 ht) ?_
          refine r_ld (pc' := 48) rfl rfl rfl rfl ?_
          have hb98 := rd_T5 ht hz (i := x2.toNat) (by omega)
          refine r_ia (pc' := 49) rfl rfl (sh_T5 ht) rfl (by omega) (by omega) (hst.2.2.1 _ _ (notS_c (by omega) (notS_c (by omega) (notS_c (by omega) (notS_c (by omega) notS_n))))) ?_
          refine r_ld (pc' := 50) rfl rfl rfl rfl ?_
          refine r_gr (b := t + 6) (pc' := 53) rfl rfl (sh_T ht) rfl (pp_T_10 ht) ?_
          refine r_ld (pc' := 54) rfl rfl rfl rfl ?_
          have hb99 := rd_T6 ht hz (i := x2.toNat) (by omega)
          refine r_ia (pc' := 55) rfl rfl (sh_T6 ht) rfl (by omega) (by omega) (hst.2.2.1 _ _ (notS_c (by omega) (notS_c (by omega) (notS_c (by omega) (notS_c (by omega) notS_n))))) ?_
          refine r_is (pc' := 56) rfl rfl (sh_T2 ht) rfl (by omega) (by omega) hst (inS_s (inS_s (inS_s (inS_0 (by omega) (by omega) (by omega) (by omega))))) (wr_T2 ht ⟨by omega, by omega⟩) (fun z100 hq101 hs102 => ?_)
          refine r_ld (pc' := 57) rfl rfl rfl rfl ?_
          refine r_gr (b := t + 2) (pc' := 60) rfl rfl (sh_T ht) rfl (pp_T_6 ht) ?_
          refine r_ld (pc' := 61) rfl rfl rfl rfl ?_
          refine r_gr (b := t + 6) (pc' := 64) rfl rfl (sh_T ht) rfl (pp_T_10 ht) ?_
          refine r_ld (pc' := 65) rfl rfl rfl rfl ?_
          refine r_ia (pc' := 66) rfl rfl (sh_T6 ht) rfl (by omega) (by omega) (((congrFun (congrFun hq101 _) _).trans (mu_ne (by omega))).trans (hst.2.2.1 _ _ (notS_c (by omega) (notS_c (by omega) (notS_c (by omega) (notS_c (by omega) notS_n)))))) ?_
          refine r_ld (pc' := 67) rfl rfl rfl rfl ?_
          refine r_gr (b := t + 5) (pc' := 70) rfl rfl (sh_T ht) rfl (pp_T_9 ht) ?_
          refine r_ld (pc' := 71) rfl rfl rfl rfl ?_
          refine r_ia (pc' := 72) rfl rfl (sh_T5 ht) rfl (by omega) (by omega) (((congrFun (congrFun hq101 _) _).trans (mu_ne (by omega))).trans (hst.2.2.1 _ _ (notS_c (by omega) (notS_c (by omega) (notS_c (by omega) (notS_c (by omega) notS_n)))))) ?_
          refine r_is (pc' := 73) rfl rfl (sh_T2 ht) rfl (by omega) (by omega) hs102 (inS_s (inS_s (inS_s (inS_0 (by omega) (by omega) (by omega) (by omega))))) (wr_T2 ht ⟨by omega, by omega⟩) (fun z103 hq104 hs105 => ?_)
          refine r_inc (pc' := 76) (lv' := [(0, _), (1, _)]) rfl rfl rfl rfl rfl ?_
          refine r_go rfl ?_
          have hb106 := rd_T_2 ht hz
          have hf107 : z103 t 2 = z0 t 2 := (((congrFun (congrFun hq104 _) _).trans (mu_ne (by omega))).trans (((congrFun (congrFun hq101 _) _).trans (mu_ne (by omega))).trans un_z_t_2))
          have hb108 := rd_T_1 ht hz
          exact w_lv (sub_c rfl (sub_c rfl (sub_c rfl sub_n))) rfl (ih0 x1 (x2 + 1) z103 w ⟨by omega, by omega⟩ ⟨by omega, by omega⟩ hs105 ((((congrFun (congrFun hq104 _) _).trans (mu_ne (by omega))).trans (((congrFun (congrFun hq101 _) _).trans (mu_ne (by omega))).trans un_z_t_1))) ((((congrFun (congrFun hq104 _) _).trans (mu_ne (by omega))).trans (((congrFun (congrFun hq101 _) _).trans (mu_ne (by omega))).trans un_z_t_2))) (by first | (intro e he; exfalso; omega) | (subst hq101 hq104; exact gl_s hpi (by omega) (by omega) (by omega) as1 (fun s h1 h2 => by (simp only [mu]; (repeat' split) <;> first | omega | (simp_all; done) | (simp_all; omega))) (by (simp only [mu]; (repeat' split) <;> first | omega | (simp_all; done) | (simp_all; omega))) (by (simp only [mu]; (repeat' split) <;> first | omega | (simp_all; done) | (simp_all; omega))))) (by first | omega | assumption | (simp only [hf107]; assumption)) (by first | exact h2 | exact ((((congrFun (congrFun hq104 _) _).trans (mu_ne (by omega))).trans ((congrFun (congrFun hq101 _) _).trans (mu_ne (by omega))))).trans as5) (by omega))
        · skip
          refine r_c0 (pc' := 38) rfl rfl ?_
          have hb109 := rd_T_0 ht hz
          have hf110 : z t 0 = z0 t 0 := (hst.2.2.1 _ _ (notS_c (by omega) (notS_c (by omega) (notS_c (by omega) (notS_c (by omega) notS_n)))))
          have hb111 := rd_T_1 ht hz
          have hf112 : z t 1 = z0 t 1 := un_z_t_1
          have hF113 : z (t + 1) = z0 (t + 1) := (funext fun _ => hst.2.2.1 _ _ (notS_c (by omega) (notS_c (by omega) (notS_c (by omega) (notS_c (by omega) notS_n)))))
          have hF114 : z (t + 5) = z0 (t + 5) := (funext fun _ => hst.2.2.1 _ _ (notS_c (by omega) (notS_c (by omega) (notS_c (by omega) (notS_c (by omega) notS_n)))))
          exact r_rz rfl (by omega) (po_I hst ⟨by decide, by decide⟩ ⟨rfl, by omega, by omega, (by constructor; (first | (intro h; exfalso; omega) | (intro _; have q := WT_of (m := z0 t 0) (T := z0 (t + 1)) (tt := z0 (t + 4)) (fs := z0 (t + 5)) (ss := z0 (t + 6)) (o := z (t + 2)) (by omega) (by omega) (by omega) (fun s hs => by have := rd_T1 ht hz (i := s) (by omega); omega) hpi (fun e he => (as1 e (by omega)).1) (fun e he => (as1 e (by omega)).2); simp only [hF113, hF114, hf110, hf112]; rw [as2.2]; exact q)); (first | (intro h; exfalso; omega) | (intro _; unfold PTz; rw [show z (t + 2) = NOMARK (t + 2) from funext fun i => NOMARK, show z t 0 = NOMARK t 0 from NOMARK]; refine ⟨hnp, fun e he => ?_⟩; rw [show NOMARK t 0 = z0 t 0 from (NOMARK).symm.trans ((hst.2.2.1 _ _ (notS_c (by omega) (notS_c (by omega) (notS_c (by omega) (notS_c (by omega) notS_n))))))] at he; rw [show z (t + 5) e = z0 (t + 5) e from (hst.2.2.1 _ _ (notS_c (by omega) (notS_c (by omega) (notS_c (by omega) (notS_c (by omega) notS_n))))), show NOMARK (t + 2) (z0 (t + 5) e).toNat = z (t + 2) (z0 (t + 5) e).toNat from (NOMARK).symm.trans (rfl), (as1 e (by omega)).2.1]; exact ((hpi.2 e (by omega)).2.2.2.2 (as1 e (by omega)).1).2.1)))⟩)
  refine w_m rfl rfl ?_
  refine r_ld (pc' := 1) rfl rfl rfl rfl ?_
  have hb115 := rd_T_0 ht hz
  refine r_gi (pc' := 4) rfl rfl (sh_T ht) rfl rfl ?_
  refine r_c0 (pc' := 5) rfl rfl ?_
  refine r_rm (pc' := 6) (v := (z0 t 0) % 2) rfl rfl ⟨by omega, by omega⟩ ⟨by decide, by decide⟩ (by decide) (tmod_n (by omega)) ?_
  refine r_zeq (pc' := 9) rfl rfl ⟨by omega, by omega⟩ (fun hc116 => ?_) (fun hc116 => ?_)
  · skip
    refine r_ld (pc' := 12) rfl rfl rfl rfl ?_
    refine r_gi (pc' := 15) rfl rfl (sh_T ht) rfl rfl ?_
    refine r_c0 (pc' := 16) rfl rfl ?_
    refine r_dv (pc' := 17) (v := (z0 t 0) / 2) rfl rfl ⟨by omega, by omega⟩ ⟨by decide, by decide⟩ (by decide) (tdiv_n (by omega)) ?_
    refine r_c0 (pc' := 18) rfl rfl ?_
    refine r_mul (pc' := 19) rfl rfl ?_
    refine r_st (pc' := 20) (lv' := [(1, _), (0, _)]) rfl rfl rfl rfl ?_
    refine r_c0 (pc' := 21) rfl rfl ?_
    refine r_st (pc' := 22) (lv' := [(2, _), (1, _), (0, _)]) rfl rfl rfl rfl ?_
    have hb117 := rd_T_2 ht hz
    have hb118 := rd_T_1 ht hz
    exact w_lv (sub_c rfl (sub_c rfl (sub_c rfl sub_n))) rfl ((key ((63 * (18 - 0) + 46 : Int).toNat + 1)) (((z0 t 0) / 2) * 3) 0 z0 w0 ⟨by omega, by omega⟩ ⟨by omega, by omega⟩ hst (rfl) (rfl) (by first | (intro e he; exfalso; omega) | (skip; exact gl_s hpi (by omega) (by omega) (by omega) as1 (fun s h1 h2 => by (simp only [mu]; (repeat' split) <;> first | omega | (simp_all; done) | (simp_all; omega))) (by (simp only [mu]; (repeat' split) <;> first | omega | (simp_all; done) | (simp_all; omega))) (by (simp only [mu]; (repeat' split) <;> first | omega | (simp_all; done) | (simp_all; omega))))) (by first | omega | assumption) (by first | exact h2 | exact (rfl).trans as5) (by omega))
  · skip
    refine r_c0 (pc' := 10) rfl rfl ?_
    have hb119 := rd_T_1 ht hz
    exact r_rz rfl (by omega) (po_I hst ⟨by decide, by decide⟩ ⟨rfl, by omega, by omega, (by constructor; (first | (intro h; exfalso; omega) | (intro _; have q := WT_of (m := z0 t 0) (T := z0 (t + 1)) (tt := z0 (t + 4)) (fs := z0 (t + 5)) (ss := z0 (t + 6)) (o := z (t + 2)) (by omega) (by omega) (by omega) (fun s hs => by have := rd_T1 ht hz (i := s) (by omega); omega) hpi (fun e he => (as1 e (by omega)).1) (fun e he => (as1 e (by omega)).2); simp only [id]; rw [as2.2]; exact q)); (first | (intro h; exfalso; omega) | (intro _; unfold PTz; rw [show z0 (t + 2) = NOMARK (t + 2) from funext fun i => NOMARK, show z0 t 0 = NOMARK t 0 from NOMARK]; refine ⟨hnp, fun e he => ?_⟩; rw [show NOMARK t 0 = z0 t 0 from (NOMARK).symm.trans (rfl)] at he; rw [show z0 (t + 5) e = z0 (t + 5) e from rfl, show NOMARK (t + 2) (z0 (t + 5) e).toNat = z (t + 2) (z0 (t + 5) e).toNat from (NOMARK).symm.trans (rfl), (as1 e (by omega)).2.1]; exact ((hpi.2 e (by omega)).2.2.2.2 (as1 e (by omega)).1).2.1)))⟩)
