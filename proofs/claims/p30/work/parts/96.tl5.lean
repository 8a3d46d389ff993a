/-! methods, printed by wip/tools/vcg.py -/
/-- Told clear -/
abbrev S_74x (t : Nat) : mS := [(t, t, 0, 0), (t, t, 1, 1), (t, t, 2, 2), (t, t, 3, 3), (t, t, 4, 4), (t + 4, t + 4, 0, 17), (t + 8, t + 15, 0, 17)]
abbrev E_74x (t : Nat) (z0 w0 : mZ) (x y tx it mt tt ct : Option Nat) : mZ → mZ → mP → Prop := fun z w p => p = (pq x y tx it mt tt ct) ∧ (z t 0 = 0 ∧ z t 1 = 0 ∧ z t 3 = 0 ∧ z t 4 = 0 ∧ (∀ e : Nat, e < 18 → z (t + 4) e = 0) ∧ ∀ l e : Nat, l < 8 → e < 18 → w (t + 8 + l) e = 0)
theorem m_74x {d : Nat} {z0 w0 : mZ} {x y tx it mt tt ct : Option Nat} (t : Nat) (hz : rz z0) (hw : rw_ w0) (ht : isT t) : wc (d + 1) 74 [.ref t] (mk z0 w0 (pq x y tx it mt tt ct)) (poV (S_74x t) z0 w0 (E_74x t z0 w0 x y tx it mt tt ct)) := by
  have hst : st_ (S_74x t) z0 w0 z0 w0 := st_rf hz hw
  have htb : 159 ≤ t ∧ t ≤ 192 := by have := ht; unfold isT at this; omega
  have key : ∀ N : Nat, (∀ (x1 : Int) (z w : mZ), 0 ≤ x1 ∧ x1 ≤ 18 → st_ (S_74x t) z0 w0 z w → (z t 0 = 0 ∧ z t 1 = 0 ∧ z t 3 = 0 ∧ z t 4 = 0) → (∀ e : Nat, (e : Int) < x1 → z (t + 4) e = 0) → 49 * (18 - x1) + 10321 < (N : Int) → wp_ (d) 74 3 none (27, [(0, .ref t), (1, .int (Int32.ofInt x1))], [], mk z w (pq x y tx it mt tt ct)) (poV (S_74x t) z0 w0 (E_74x t z0 w0 x y tx it mt tt ct))) ∧ (∀ (x1 : Int) (z w : mZ), 0 ≤ x1 ∧ x1 ≤ 8 → st_ (S_74x t) z0 w0 z w → (z t 0 = 0 ∧ z t 1 = 0 ∧ z t 3 = 0 ∧ z t 4 = 0) → (∀ e : Nat, e < 18 → z (t + 4) e = 0) → (∀ l e : Nat, (l : Int) < x1 → e < 18 → w (t + 8 + l) e = 0) → 1029 * (8 - x1) + 999 < (N : Int) → wp_ (d) 74 3 none (48, [(0, .ref t), (1, .int (Int32.ofInt x1))], [], mk z w (pq x y tx it mt tt ct)) (poV (S_74x t) z0 w0 (E_74x t z0 w0 x y tx it mt tt ct))) ∧ (∀ (x1 x2 : Int) (z w : mZ), 0 ≤ x1 ∧ x1 ≤ 7 → 0 ≤ x2 ∧ x2 ≤ 18 → st_ (S_74x t) z0 w0 z w → (z t 0 = 0 ∧ z t 1 = 0 ∧ z t 3 = 0 ∧ z t 4 = 0) → (∀ e : Nat, e < 18 → z (t + 4) e = 0) → (∀ l e : Nat, ((l : Int) < x1 ∧ e < 18) ∨ ((l : Int) = x1 ∧ (e : Int) < x2) → w (t + 8 + l) e = 0) → 1029 * (8 - x1) + 49 * (18 - x2) + 14 < (N : Int) → wp_ (d) 74 3 none (56, [(0, .ref t), (1, .int (Int32.ofInt x1)), (2, .int (Int32.ofInt x2))], [], mk z w (pq x y tx it mt tt ct)) (poV (S_74x t) z0 w0 (E_74x t z0 w0 x y tx it mt tt ct))) := by
    intro N
    induction N with
    | zero =>
      refine ⟨?_, ?_, ?_⟩
      · intro x1 z w
        intros; exfalso; omega
      · intro x1 z w
        intros; exfalso; omega
      · intro x1 x2 z w
        intros; exfalso; omega
    | succ N ih =>
      obtain ⟨ih0, ih1, ih2⟩ := ih
      refine ⟨?_, ?_, ?_⟩
      · intro x1 z w  hx1 hst as1 as2 hM
        refine r_ld (pc' := 28) rfl rfl rfl rfl ?_
        refine r_cb (pc' := 30) rfl (by decide) rfl ?_
        refine r_ige (pc' := 33) rfl rfl ⟨by omega, by omega⟩ ⟨by decide, by decide⟩ (fun hc29 => ?_) (fun hc29 => ?_)
        · skip
          refine r_c0 (pc' := 47) rfl rfl ?_
          refine r_st (pc' := 48) (lv' := [(1, _), (0, _)]) rfl rfl rfl rfl ?_
          have hb30 := rd_T_0 ht hst.1
          have hb31 := rd_T_1 ht hst.1
          have hb32 := rd_T_3 ht hst.1
          have hb33 := rd_T_4 ht hst.1
          exact w_lv (sub_c rfl (sub_c rfl sub_n)) rfl (ih1 0 z w ⟨by omega, by omega⟩ hst (by first | omega | assumption) (by first | (intro e he; exact as2 e (by omega)) | (simp only []; exact as2)) (by first | (intro l e hl he; exfalso; omega) | exact fun l e hl he => as3 l e (by omega)) (by omega))
        · skip
          refine r_ld (pc' := 34) rfl rfl rfl rfl ?_
          refine r_gr (b := t + 4) (pc' := 37) rfl rfl (sh_T ht) rfl (pp_T_8 ht) ?_
          refine r_ld (pc' := 38) rfl rfl rfl rfl ?_
          refine r_c0 (pc' := 39) rfl rfl ?_
          refine r_is (pc' := 40) rfl rfl (sh_T4 ht) rfl (by omega) (by omega) hst (inS_s (inS_s (inS_s (inS_s (inS_s (inS_0 (by omega) (by omega) (by omega) (by omega))))))) (wr_T4 ht ⟨by omega, by omega⟩) (fun z34 hq35 hs36 => ?_)
          refine r_inc (pc' := 43) (lv' := [(0, _)]) rfl rfl rfl rfl rfl ?_
          refine r_go rfl ?_
          have hb37 := rd_T_0 ht hst.1
          have hf38 : z34 t 0 = z t 0 := ((congrFun (congrFun hq35 _) _).trans (mu_ne (by omega)))
          have hb39 := rd_T_1 ht hst.1
          have hf40 : z34 t 1 = z t 1 := ((congrFun (congrFun hq35 _) _).trans (mu_ne (by omega)))
          have hb41 := rd_T_3 ht hst.1
          have hf42 : z34 t 3 = z t 3 := ((congrFun (congrFun hq35 _) _).trans (mu_ne (by omega)))
          have hb43 := rd_T_4 ht hst.1
          have hf44 : z34 t 4 = z t 4 := ((congrFun (congrFun hq35 _) _).trans (mu_ne (by omega)))
          exact w_lv (sub_c rfl (sub_c rfl sub_n)) rfl (ih0 (x1 + 1) z34 w ⟨by omega, by omega⟩ hs36 (by first | omega | assumption | (simp only [hf38, hf40, hf42, hf44]; assumption)) (by first | (intro e he; exfalso; omega) | (subst hq35; intro e he; by_cases k : (e : Int) = x1; (rw [show e = x1.toNat by omega]; exact mu_eq); (rw [mu_ne (by omega)]; exact as2 e (by omega)))) (by omega))
      · intro x1 z w  hx1 hst as1 as2 as3 hM
        refine r_ld (pc' := 49) rfl rfl rfl rfl ?_
        refine r_cb (pc' := 51) rfl (by decide) rfl ?_
        refine r_ige (pc' := 54) rfl rfl ⟨by omega, by omega⟩ ⟨by decide, by decide⟩ (fun hc45 => ?_) (fun hc45 => ?_)
        · skip
          have hb46 := rd_T_0 ht hst.1
          have hb47 := rd_T_1 ht hst.1
          have hb48 := rd_T_3 ht hst.1
          have hb49 := rd_T_4 ht hst.1
          exact r_ret rfl (po_V hst ⟨rfl, (by exact ⟨by omega, by omega, by omega, by omega, as2, fun l e hl he => as3 l e (by omega) he⟩)⟩)
        · skip
          refine r_c0 (pc' := 55) rfl rfl ?_
          refine r_st (pc' := 56) (lv' := [(2, _), (0, _), (1, _)]) rfl rfl rfl rfl ?_
          have hb50 := rd_T_0 ht hst.1
          have hb51 := rd_T_1 ht hst.1
          have hb52 := rd_T_3 ht hst.1
          have hb53 := rd_T_4 ht hst.1
          exact w_lv (sub_c rfl (sub_c rfl (sub_c rfl sub_n))) rfl (ih2 x1 0 z w ⟨by omega, by omega⟩ ⟨by omega, by omega⟩ hst (by first | omega | assumption) (by first | exact as2 | (simp only []; exact as2)) (by first | exact fun l e h => as3 l e (by omega) (by omega) | (intro l e h; rw [hqr]; by_cases c : l = x1.toNat ∧ e = x2.toNat; (rw [c.1, c.2]; exact mu_eq); (rw [mu_ne (by omega)]; exact as3 l e (by omega)))) (by omega))
      · intro x1 x2 z w  hx1 hx2 hst as1 as2 as3 hM
        refine r_ld (pc' := 57) rfl rfl rfl rfl ?_
        refine r_cb (pc' := 59) rfl (by decide) rfl ?_
        refine r_ige (pc' := 62) rfl rfl ⟨by omega, by omega⟩ ⟨by decide, by decide⟩ (fun hc54 => ?_) (fun hc54 => ?_)
        · skip
          refine r_inc (pc' := 80) (lv' := [(0, _), (2, _)]) rfl rfl rfl rfl rfl ?_
          refine r_go rfl ?_
          have hb55 := rd_T_0 ht hst.1
          have hb56 := rd_T_1 ht hst.1
          have hb57 := rd_T_3 ht hst.1
          have hb58 := rd_T_4 ht hst.1
          exact w_lv (sub_c rfl (sub_c rfl sub_n)) rfl (ih1 (x1 + 1) z w ⟨by omega, by omega⟩ hst (by first | omega | assumption) (by first | (intro e he; exact as2 e (by omega)) | (simp only []; exact as2)) (by first | (intro l e hl he; exfalso; omega) | exact fun l e hl he => as3 l e (by omega)) (by omega))
        · skip
          refine r_ld (pc' := 63) rfl rfl rfl rfl ?_
          refine r_gr (b := t + 7) (pc' := 66) rfl rfl (sh_T ht) rfl (pp_T_11 ht) ?_
          refine r_ld (pc' := 67) rfl rfl rfl rfl ?_
          refine r_aa (b := t + 8 + x1.toNat) (pc' := 68) rfl rfl (sh_T7 ht) (Or.inl rfl) rfl (by omega) (by omega) (pa_T7 ht (by omega)) ?_
          refine r_ld (pc' := 69) rfl rfl rfl rfl ?_
          refine r_lc0 (pc' := 70) rfl rfl ?_
          refine r_ls (pc' := 71) rfl rfl (sh_T8 ht (by omega)) rfl (by omega) (by omega) hst (inS_s (inS_s (inS_s (inS_s (inS_s (inS_s (inS_0 (by omega) (by omega) (by omega) (by omega)))))))) (wr_T8 ht (k := x1.toNat) (by omega) ⟨by omega, by omega⟩) (fun w59 hq60 hs61 => ?_)
          have hqr := hq60
          refine r_inc (pc' := 74) (lv' := [(0, _), (1, _)]) rfl rfl rfl rfl rfl ?_
          refine r_go rfl ?_
          have hb62 := rd_T_0 ht hst.1
          have hb63 := rd_T_1 ht hst.1
          have hb64 := rd_T_3 ht hst.1
          have hb65 := rd_T_4 ht hst.1
          exact w_lv (sub_c rfl (sub_c rfl (sub_c rfl sub_n))) rfl (ih2 x1 (x2 + 1) z w59 ⟨by omega, by omega⟩ ⟨by omega, by omega⟩ hs61 (by first | omega | assumption) (by first | exact as2 | (simp only []; exact as2)) (by first | exact fun l e h => as3 l e (by omega) (by omega) | (intro l e h; rw [hqr]; by_cases c : l = x1.toNat ∧ e = x2.toNat; (rw [c.1, c.2]; exact mu_eq); (rw [mu_ne (by omega)]; exact as3 l e (by omega)))) (by omega))
  refine w_m rfl rfl ?_
  refine r_ld (pc' := 1) rfl rfl rfl rfl ?_
  refine r_c0 (pc' := 2) rfl rfl ?_
  refine r_pi (pc' := 5) rfl rfl (sh_T ht) rfl rfl hst (inS_0 (by omega) (by omega) (by omega) (by omega)) (wr_T_0 ht ⟨by omega, by omega⟩) (fun z66 hq67 hs68 => ?_)
  refine r_ld (pc' := 6) rfl rfl rfl rfl ?_
  refine r_c0 (pc' := 7) rfl rfl ?_
  refine r_pi (pc' := 10) rfl rfl (sh_T ht) rfl rfl hs68 (inS_s (inS_0 (by omega) (by omega) (by omega) (by omega))) (wr_T_1 ht ⟨by omega, by omega⟩) (fun z69 hq70 hs71 => ?_)
  refine r_ld (pc' := 11) rfl rfl rfl rfl ?_
  refine r_c0 (pc' := 12) rfl rfl ?_
  refine r_pi (pc' := 15) rfl rfl (sh_T ht) rfl rfl hs71 (inS_s (inS_s (inS_0 (by omega) (by omega) (by omega) (by omega)))) (wr_T_2 ht ⟨by omega, by omega⟩) (fun z72 hq73 hs74 => ?_)
  refine r_ld (pc' := 16) rfl rfl rfl rfl ?_
  refine r_c0 (pc' := 17) rfl rfl ?_
  refine r_pi (pc' := 20) rfl rfl (sh_T ht) rfl rfl hs74 (inS_s (inS_s (inS_s (inS_0 (by omega) (by omega) (by omega) (by omega))))) (wr_T_3 ht ⟨by omega, by omega⟩) (fun z75 hq76 hs77 => ?_)
  refine r_ld (pc' := 21) rfl rfl rfl rfl ?_
  refine r_c0 (pc' := 22) rfl rfl ?_
  refine r_pi (pc' := 25) rfl rfl (sh_T ht) rfl rfl hs77 (inS_s (inS_s (inS_s (inS_s (inS_0 (by omega) (by omega) (by omega) (by omega)))))) (wr_T_4 ht ⟨by omega, by omega⟩) (fun z78 hq79 hs80 => ?_)
  refine r_c0 (pc' := 26) rfl rfl ?_
  refine r_st (pc' := 27) (lv' := [(1, _), (0, _)]) rfl rfl rfl rfl ?_
  have hf81 : z78 t 0 = 0 := (((congrFun (congrFun hq79 _) _).trans (mu_ne (by omega))).trans (((congrFun (congrFun hq76 _) _).trans (mu_ne (by omega))).trans (((congrFun (congrFun hq73 _) _).trans (mu_ne (by omega))).trans (((congrFun (congrFun hq70 _) _).trans (mu_ne (by omega))).trans ((congrFun (congrFun hq67 _) _).trans mu_eq)))))
  have hf82 : z78 t 1 = 0 := (((congrFun (congrFun hq79 _) _).trans (mu_ne (by omega))).trans (((congrFun (congrFun hq76 _) _).trans (mu_ne (by omega))).trans (((congrFun (congrFun hq73 _) _).trans (mu_ne (by omega))).trans ((congrFun (congrFun hq70 _) _).trans mu_eq))))
  have hf83 : z78 t 3 = 0 := (((congrFun (congrFun hq79 _) _).trans (mu_ne (by omega))).trans ((congrFun (congrFun hq76 _) _).trans mu_eq))
  have hf84 : z78 t 4 = 0 := ((congrFun (congrFun hq79 _) _).trans mu_eq)
  have hF85 : z78 (t + 4) = z0 (t + 4) := (((congrFun hq79 _).trans (mu_fn (by omega))).trans (((congrFun hq76 _).trans (mu_fn (by omega))).trans (((congrFun hq73 _).trans (mu_fn (by omega))).trans (((congrFun hq70 _).trans (mu_fn (by omega))).trans ((congrFun hq67 _).trans (mu_fn (by omega)))))))
  exact w_lv (sub_c rfl (sub_c rfl sub_n)) rfl ((key ((49 * (18 - 0) + 10321 : Int).toNat + 1)).1 0 z78 w0 ⟨by omega, by omega⟩ hs80 (by first | omega | assumption | (simp only [hF85, hf81, hf82, hf83, hf84]; assumption)) (by first | (intro e he; exfalso; omega) | (subst hq67 hq70 hq73 hq76 hq79; intro e he; by_cases k : (e : Int) = x1; (rw [show e = x1.toNat by omega]; exact mu_eq); (rw [mu_ne (by omega)]; exact as2 e (by omega)))) (by omega))
/-- Told hangsTogether -/
abbrev S_77x  : mS := []
abbrev E_77x (t : Nat) (z0 w0 : mZ) (x y tx it mt tt ct : Option Nat) : Int → mZ → mZ → mP → Prop := fun v z w p => p = (pq x y tx it mt tt ct) ∧ z0 = z ∧ w0 = w ∧ 0 ≤ v ∧ v ≤ 1 ∧ ((v = 1 ↔ ∀ q : Nat, (q : Int) < z0 t 0 → hgx (z0 (t + 1)) (z0 t 0).toNat ((z0 t 0).toNat * (z0 t 0).toNat) q))
theorem m_77x {d : Nat} {z0 w0 : mZ} {x y tx it mt tt ct : Option Nat} (t : Nat) (hz : rz z0) (hw : rw_ w0) (ht : isT t) (hO : ∀ i : Nat, i < 3 * (z0 t 0).toNat → ((z0 (t + 2)) i).toNat < 3 * (z0 t 0).toNat) (hH : ∀ p q : Nat, p < (z0 t 0).toNat → q < (z0 t 0).toNat → (hg (z0 (t + 1)) p q ↔ q = p ∨ ∃ i, i < 3 ∧ ((z0 (t + 2)) (3 * p + i)).toNat / 3 = q)) : wc (d + 1) 77 [.ref t] (mk z0 w0 (pq x y tx it mt tt ct)) (poI S_77x z0 w0 (E_77x t z0 w0 x y tx it mt tt ct)) := by
  have hst : st_ S_77x z0 w0 z0 w0 := st_rf hz hw
  have htb : 159 ≤ t ∧ t ≤ 192 := by have := ht; unfold isT at this; omega
  have hz18 := rd_T_0 ht hz
  have hz0 := rd_T_0 ht hz
  have key : ∀ N : Nat, (∀ (x1 x2 : Int) , 0 ≤ x1 ∧ x1 ≤ 2147483647 → 0 ≤ x2 ∧ x2 ≤ 12 → (0 ≤ x1 ∧ (z0 t 0 ≠ 0 → ∀ q, BT x1 q ↔ hgx (z0 (t + 1)) (z0 t 0).toNat (x2.toNat * (z0 t 0).toNat) q)) → (x2 ≤ z0 t 0) → 2106 * (12 - x2) + 2101 < (N : Int) → wp_ (d) 77 4 (some .boolean) (4, [(0, .ref t), (1, .int (Int32.ofInt x1)), (2, .int (Int32.ofInt x2))], [], mk z0 w0 (pq x y tx it mt tt ct)) (poI S_77x z0 w0 (E_77x t z0 w0 x y tx it mt tt ct))) ∧ (∀ (x1 x2 x3 : Int) , 0 ≤ x1 ∧ x1 ≤ 2147483647 → 0 ≤ x2 ∧ x2 ≤ 11 → 0 ≤ x3 ∧ x3 ≤ 36 → 1 ≤ z0 t 0 ∧ z0 t 0 ≤ 12 → (0 ≤ x1 ∧ ∀ q, BT x1 q ↔ hgp (z0 (t + 1)) (z0 (t + 2)) (z0 t 0).toNat x2.toNat x3.toNat q) → (x2 < z0 t 0 ∧ x3 ≤ 3 * z0 t 0) → 2106 * (12 - x2) + 54 * (36 - x3) + 43 < (N : Int) → wp_ (d) 77 4 (some .boolean) (14, [(0, .ref t), (1, .int (Int32.ofInt x1)), (2, .int (Int32.ofInt x2)), (3, .int (Int32.ofInt x3))], [], mk z0 w0 (pq x y tx it mt tt ct)) (poI S_77x z0 w0 (E_77x t z0 w0 x y tx it mt tt ct))) := by
    intro N
    induction N with
    | zero =>
      refine ⟨?_, ?_⟩
      · intro x1 x2 
        intros; exfalso; omega
      · intro x1 x2 x3 
        intros; exfalso; omega
    | succ N ih =>
      obtain ⟨ih0, ih1⟩ := ih
      refine ⟨?_, ?_⟩
      · intro x1 x2  hx1 hx2 as1 as2 hM
        refine r_ld (pc' := 5) rfl rfl rfl rfl ?_
        refine r_ld (pc' := 6) rfl rfl rfl rfl ?_
        have hb19 := rd_T_0 ht hz
        refine r_gi (pc' := 9) rfl rfl (sh_T ht) rfl rfl ?_
        refine r_ige (pc' := 12) rfl rfl ⟨by omega, by omega⟩ ⟨by omega, by omega⟩ (fun hc20 => ?_) (fun hc20 => ?_)
        · skip
          refine r_ld (pc' := 60) rfl rfl rfl rfl ?_
          refine r_gi (pc' := 63) rfl rfl (sh_T ht) rfl rfl ?_
          refine r_zeq (pc' := 66) rfl rfl ⟨by omega, by omega⟩ (fun hc21 => ?_) (fun hc21 => ?_)
          · skip
            refine r_c0 (pc' := 79) rfl rfl ?_
            refine r_go rfl ?_
            exact r_rz rfl (by omega) (po_I hst ⟨by decide, by decide⟩ ⟨rfl, rfl, rfl, by omega, by omega, (by first | exact ⟨fun _ q hq => absurd hq (by omega), fun _ => by omega⟩ | (have he := hg_end (T := z0 (t + 1)) (m := (z0 t 0).toNat) (x := x1) as1.1 (by omega) (by have q9 := as1.2 (by omega); rw [show x2.toNat = (z0 t 0).toNat by omega] at q9; exact q9) hsl72; first | exact ⟨fun _ q hq => he.mp (by omega) q (by omega), fun _ => by omega⟩ | exact ⟨fun c => absurd c (by omega), fun c => absurd (he.mpr (fun q hq => c q (by omega))) (by omega)⟩))⟩)
          · skip
            refine r_ld (pc' := 67) rfl rfl rfl rfl ?_
            refine r_c0 (pc' := 68) rfl rfl ?_
            refine r_ld (pc' := 69) rfl rfl rfl rfl ?_
            refine r_gi (pc' := 72) rfl rfl (sh_T ht) rfl rfl ?_
            refine r_sh1 (pc' := 73) rfl rfl (by omega) (by omega) (fun v22 hsl72 h23 h24 => ?_)
            refine r_c0 (pc' := 74) rfl rfl ?_
            refine r_sub (pc' := 75) rfl rfl ?_
            refine r_ine (pc' := 78) rfl rfl ⟨by omega, by omega⟩ ⟨by omega, by omega⟩ (fun hc25 => ?_) (fun hc25 => ?_)
            · skip
              refine r_c0 (pc' := 83) rfl rfl ?_
              exact r_rz rfl (by omega) (po_I hst ⟨by decide, by decide⟩ ⟨rfl, rfl, rfl, by omega, by omega, (by first | exact ⟨fun _ q hq => absurd hq (by omega), fun _ => by omega⟩ | (have he := hg_end (T := z0 (t + 1)) (m := (z0 t 0).toNat) (x := x1) as1.1 (by omega) (by have q9 := as1.2 (by omega); rw [show x2.toNat = (z0 t 0).toNat by omega] at q9; exact q9) hsl72; first | exact ⟨fun _ q hq => he.mp (by omega) q (by omega), fun _ => by omega⟩ | exact ⟨fun c => absurd c (by omega), fun c => absurd (he.mpr (fun q hq => c q (by omega))) (by omega)⟩))⟩)
            · skip
              refine r_c0 (pc' := 79) rfl rfl ?_
              refine r_go rfl ?_
              exact r_rz rfl (by omega) (po_I hst ⟨by decide, by decide⟩ ⟨rfl, rfl, rfl, by omega, by omega, (by first | exact ⟨fun _ q hq => absurd hq (by omega), fun _ => by omega⟩ | (have he := hg_end (T := z0 (t + 1)) (m := (z0 t 0).toNat) (x := x1) as1.1 (by omega) (by have q9 := as1.2 (by omega); rw [show x2.toNat = (z0 t 0).toNat by omega] at q9; exact q9) hsl72; first | exact ⟨fun _ q hq => he.mp (by omega) q (by omega), fun _ => by omega⟩ | exact ⟨fun c => absurd c (by omega), fun c => absurd (he.mpr (fun q hq => c q (by omega))) (by omega)⟩))⟩)
        · skip
          refine r_c0 (pc' := 13) rfl rfl ?_
          refine r_st (pc' := 14) (lv' := [(3, _), (0, _), (1, _), (2, _)]) rfl rfl rfl rfl ?_
          exact w_lv (sub_c rfl (sub_c rfl (sub_c rfl (sub_c rfl sub_n)))) rfl (ih1 x1 x2 0 ⟨by omega, by omega⟩ ⟨by omega, by omega⟩ ⟨by omega, by omega⟩ ⟨by omega, by omega⟩ (by first | exact ⟨as1.1, fun q => (as1.2 (by omega) q).trans hgp_0.symm⟩ | exact ⟨by omega, by rw [show (x3 + 1).toNat = x3.toNat + 1 by omega]; exact hgp_t (by omega) hH hO (hbt.mpr (by omega)) as1.2 hob45 hsl44 (by omega)⟩ | exact ⟨by omega, by rw [show (x3 + 1).toNat = x3.toNat + 1 by omega]; exact hgp_f (by omega) hH hO (fun c => by have := hbt.mp c; omega) as1.2⟩) (by first | omega | assumption) (by omega))
      · intro x1 x2 x3  hx1 hx2 hx3 hz0_0 as1 as2 hM
        refine r_ld (pc' := 15) rfl rfl rfl rfl ?_
        refine r_c0 (pc' := 16) rfl rfl ?_
        refine r_ld (pc' := 17) rfl rfl rfl rfl ?_
        refine r_gi (pc' := 20) rfl rfl (sh_T ht) rfl rfl ?_
        refine r_mul (pc' := 21) rfl rfl ?_
        refine r_ige (pc' := 24) rfl rfl ⟨by omega, by omega⟩ ⟨by omega, by omega⟩ (fun hc26 => ?_) (fun hc26 => ?_)
        · skip
          refine r_inc (pc' := 56) (lv' := [(0, _), (1, _), (3, _)]) rfl rfl rfl rfl rfl ?_
          refine r_go rfl ?_
          exact w_lv (sub_c rfl (sub_c rfl (sub_c rfl sub_n))) rfl (ih0 x1 (x2 + 1) ⟨by omega, by omega⟩ ⟨by omega, by omega⟩ (by first | exact ⟨by omega, fun _ q => by rw [show (0 : Int).toNat * (z0 t 0).toNat = 0 from Nat.zero_mul _]; exact BT_1 q⟩ | exact ⟨by omega, fun _ q => by rw [as1.2 q, show x3.toNat = 3 * (z0 t 0).toNat by omega, show (x2 + 1).toNat = x2.toNat + 1 by omega]; exact hgp_m⟩) (by first | omega | assumption) (by omega))
        · skip
          refine r_ld (pc' := 25) rfl rfl rfl rfl ?_
          refine r_ld (pc' := 26) rfl rfl rfl rfl ?_
          refine r_c0 (pc' := 27) rfl rfl ?_
          refine r_dv (pc' := 28) (v := x3 / 3) rfl rfl ⟨by omega, by omega⟩ ⟨by decide, by decide⟩ (by decide) (tdiv_n (by omega)) ?_
          refine r_shrv (pc' := 29) rfl rfl ⟨by omega, by omega⟩ (by omega) (by omega) (fun v27 hsv28 h28 => ?_)
          unfold inI at h28
          refine r_c0 (pc' := 30) rfl rfl ?_
          refine r_msk (m := 1) (n := 1) (pc' := 31) rfl rfl ⟨by omega, by omega⟩ (by decide) (by decide) ?_
          have hbt := BT_d as1.1 (x3 / 3).toNat
          rw [hsv28, show (x3 / 3).toNat = x3.toNat / 3 by omega, as1.2] at hbt
          refine r_zeq (pc' := 34) rfl rfl ⟨by omega, by omega⟩ (fun hc29 => ?_) (fun hc29 => ?_)
          · skip
            refine r_inc (pc' := 50) (lv' := [(0, _), (1, _), (2, _)]) rfl rfl rfl rfl rfl ?_
            refine r_go rfl ?_
            exact w_lv (sub_c rfl (sub_c rfl (sub_c rfl (sub_c rfl sub_n)))) rfl (ih1 x1 x2 (x3 + 1) ⟨by omega, by omega⟩ ⟨by omega, by omega⟩ ⟨by omega, by omega⟩ ⟨by omega, by omega⟩ (by first | exact ⟨as1.1, fun q => (as1.2 (by omega) q).trans hgp_0.symm⟩ | exact ⟨by omega, by rw [show (x3 + 1).toNat = x3.toNat + 1 by omega]; exact hgp_t (by omega) hH hO (hbt.mpr (by omega)) as1.2 hob45 hsl44 (by omega)⟩ | exact ⟨by omega, by rw [show (x3 + 1).toNat = x3.toNat + 1 by omega]; exact hgp_f (by omega) hH hO (fun c => by have := hbt.mp c; omega) as1.2⟩) (by first | omega | assumption) (by omega))
          · skip
            refine r_ld (pc' := 35) rfl rfl rfl rfl ?_
            refine r_c0 (pc' := 36) rfl rfl ?_
            refine r_ld (pc' := 37) rfl rfl rfl rfl ?_
            refine r_gr (b := t + 2) (pc' := 40) rfl rfl (sh_T ht) rfl (pp_T_6 ht) ?_
            refine r_ld (pc' := 41) rfl rfl rfl rfl ?_
            have hb30 := rd_T2 ht hz (i := x3.toNat) (by omega)
            refine r_ia (pc' := 42) rfl rfl (sh_T2 ht) rfl (by omega) (by omega) rfl ?_
            refine r_c0 (pc' := 43) rfl rfl ?_
            refine r_dv (pc' := 44) (v := (z0 (t + 2) x3.toNat) / 3) rfl rfl ⟨by omega, by omega⟩ ⟨by decide, by decide⟩ (by decide) (tdiv_n (by omega)) ?_
            refine r_sh1 (pc' := 45) rfl rfl (by omega) (by omega) (fun v31 hsl44 h32 h33 => ?_)
            refine r_orb (pc' := 46) rfl rfl ⟨by omega, by omega⟩ ⟨by omega, by omega⟩ (fun v34 h35 hob45 => ?_)
            refine r_st (pc' := 47) (lv' := [(1, _), (0, _), (2, _), (3, _)]) rfl rfl rfl rfl ?_
            refine r_inc (pc' := 50) (lv' := [(1, _), (0, _), (2, _)]) rfl rfl rfl rfl rfl ?_
            refine r_go rfl ?_
            exact w_lv (sub_c rfl (sub_c rfl (sub_c rfl (sub_c rfl sub_n)))) rfl (ih1 v34 x2 (x3 + 1) ⟨by omega, by omega⟩ ⟨by omega, by omega⟩ ⟨by omega, by omega⟩ ⟨by omega, by omega⟩ (by first | exact ⟨as1.1, fun q => (as1.2 (by omega) q).trans hgp_0.symm⟩ | exact ⟨by omega, by rw [show (x3 + 1).toNat = x3.toNat + 1 by omega]; exact hgp_t (by omega) hH hO (hbt.mpr (by omega)) as1.2 hob45 hsl44 (by omega)⟩ | exact ⟨by omega, by rw [show (x3 + 1).toNat = x3.toNat + 1 by omega]; exact hgp_f (by omega) hH hO (fun c => by have := hbt.mp c; omega) as1.2⟩) (by first | omega | assumption) (by omega))
  refine w_m rfl rfl ?_
  refine r_c0 (pc' := 1) rfl rfl ?_
  refine r_st (pc' := 2) (lv' := [(1, _), (0, _)]) rfl rfl rfl rfl ?_
  refine r_c0 (pc' := 3) rfl rfl ?_
  refine r_st (pc' := 4) (lv' := [(2, _), (1, _), (0, _)]) rfl rfl rfl rfl ?_
  exact w_lv (sub_c rfl (sub_c rfl (sub_c rfl sub_n))) rfl ((key ((2106 * (12 - 0) + 2101 : Int).toNat + 1)).1 1 0 ⟨by omega, by omega⟩ ⟨by omega, by omega⟩ (by first | exact ⟨by omega, fun _ q => by rw [show (0 : Int).toNat * (z0 t 0).toNat = 0 from Nat.zero_mul _]; exact BT_1 q⟩ | exact ⟨by omega, fun _ q => by rw [as1.2 q, show x3.toNat = 3 * (z0 t 0).toNat by omega, show (x2 + 1).toNat = x2.toNat + 1 by omega]; exact hgp_m⟩) (by first | omega | assumption) (by omega))
/-- Told glue -/
abbrev S_76x (t : Nat) : mS := [(t, t, 1, 1), (t + 3, t + 3, 0, 35), (t, t, 2, 2), (t + 2, t + 2, 0, 35)]
abbrev E_76x (t : Nat) (z0 w0 : mZ) (x y tx it mt tt ct : Option Nat) : Int → mZ → mZ → mP → Prop := fun v z w p => p = (pq x y tx it mt tt ct) ∧ 0 ≤ v ∧ v ≤ 1 ∧ ((v = 1 → WHm (z0 t 0) (z0 (t + 1)) (z0 (t + 4)) ∧ z t 1 = 3 * z0 t 0 / 2) ∧ (v = 0 → ¬ WHm (z0 t 0) (z0 (t + 1)) (z0 (t + 4))))
theorem m_76x {d : Nat} {z0 w0 : mZ} {x y tx it mt tt ct : Option Nat} (t : Nat) (hz : rz z0) (hw : rw_ w0) (ht : isT t) (hpi : PI (z0 (t + 1)) (z0 (t + 4)) (z0 (t + 5)) (z0 (t + 6)) (3 * z0 t 0)) : wc (d + 3) 76 [.ref t] (mk z0 w0 (pq x y tx it mt tt ct)) (poI (S_76x t) z0 w0 (E_76x t z0 w0 x y tx it mt tt ct)) := by
  have hst : st_ (S_76x t) z0 w0 z0 w0 := st_rf hz hw
  have htb : 159 ≤ t ∧ t ≤ 192 := by have := ht; unfold isT at this; omega
  have hz43 := rd_T_0 ht hz
  have hz0 := rd_T_0 ht hz
  have key : ∀ N : Nat, (∀ (x1 x2 : Int) (z w : mZ), 0 ≤ x1 ∧ x1 ≤ 18 → 0 ≤ x2 ∧ x2 ≤ 18 → st_ (S_76x t) z0 w0 z w → z t 1 = z0 t 1 → z t 2 = z0 t 2 → (∀ e : Nat, (e : Int) < x2 → z0 (t + 4) e = 2 ∧ z (t + 2) (z0 (t + 5) e).toNat = z0 (t + 6) e ∧ z (t + 2) (z0 (t + 6) e).toNat = z0 (t + 5) e) → (z0 t 0 % 2 = 0 ∧ x1 = z0 t 0 / 2 * 3) → 63 * (18 - x2) + 46 < (N : Int) → wp_ (d + 2) 76 3 (some .boolean) (22, [(0, .ref t), (1, .int (Int32.ofInt x1)), (2, .int (Int32.ofInt x2))], [], mk z w (pq x y tx it mt tt ct)) (poI (S_76x t) z0 w0 (E_76x t z0 w0 x y tx it mt tt ct))) := by
    intro N
    induction N with
    | zero =>
      intro x1 x2 z w
      intros; exfalso; omega
    | succ N ih =>
      have ih0 := ih; clear ih
      intro x1 x2 z w  hx1 hx2 hst un_z_t_1 un_z_t_2 as1 as2 hM
      refine r_ld (pc' := 23) rfl rfl rfl rfl ?_
      refine r_ld (pc' := 24) rfl rfl rfl rfl ?_
      refine r_ige (pc' := 27) rfl rfl ⟨by omega, by omega⟩ ⟨by omega, by omega⟩ (fun hc44 => ?_) (fun hc44 => ?_)
      · skip
        refine r_ld (pc' := 80) rfl rfl rfl rfl ?_
        refine r_ld (pc' := 81) rfl rfl rfl rfl ?_
        refine r_pi (pc' := 84) rfl rfl (sh_T ht) rfl rfl hst (inS_0 (by omega) (by omega) (by omega) (by omega)) (wr_T_1 ht ⟨by omega, by omega⟩) (fun z45 hq46 hs47 => ?_)
        have hWT := WT_of (m := z0 t 0) (T := z0 (t + 1)) (tt := z0 (t + 4)) (fs := z0 (t + 5)) (ss := z0 (t + 6)) (o := z (t + 2)) (by omega) (by omega) (by omega) (fun s hs => by have := rd_T1 ht hz (i := s) (by omega); omega) hpi (fun e he => (as1 e (by omega)).1) (fun e he => (as1 e (by omega)).2)
        refine r_ld (pc' := 85) rfl rfl rfl rfl ?_
        have n1 : z45 (t + 1) = z0 (t + 1) := funext fun i => (((congrFun (congrFun hq46 _) _).trans (mu_ne (by omega))).trans (hst.2.2.1 _ _ (notS_c (by omega) (notS_c (by omega) (notS_c (by omega) (notS_c (by omega) notS_n))))))
        have n0 : z45 t 0 = z0 t 0 := (((congrFun (congrFun hq46 _) _).trans (mu_ne (by omega))).trans (hst.2.2.1 _ _ (notS_c (by omega) (notS_c (by omega) (notS_c (by omega) (notS_c (by omega) notS_n))))))
        have hb48 := rd_T_0 ht hz
        have hf49 : z45 t 0 = z0 t 0 := (((congrFun (congrFun hq46 _) _).trans (mu_ne (by omega))).trans (hst.2.2.1 _ _ (notS_c (by omega) (notS_c (by omega) (notS_c (by omega) (notS_c (by omega) notS_n))))))
        have hF50 : z45 (t + 2) = z (t + 2) := ((congrFun hq46 _).trans (mu_fn (by omega)))
        have hF51 : z45 (t + 1) = z0 (t + 1) := (((congrFun hq46 _).trans (mu_fn (by omega))).trans (funext fun _ => hst.2.2.1 _ _ (notS_c (by omega) (notS_c (by omega) (notS_c (by omega) (notS_c (by omega) notS_n))))))
        refine r_cVI (pc' := 88) rfl rfl rfl rfl rfl (sh_T ht) (m_77x (d := d + 1) t hs47.1 hs47.2.1 ht (by simp only [hF50, hF51, hf49]; intro i hi; have := hWT.oL i (by omega); omega) (by simp only [hF50, hF51, hf49]; exact hg_WT hWT)) (fun v52 z53 w54 p55 h56 hs57 hE58 => ?_)
        obtain ⟨rfl, rfl, rfl, hE58⟩ := hE58
        have hht := hE58.2.2
        rw [n0, n1] at hht
        refine r_zne (pc' := 91) rfl rfl ⟨by omega, by omega⟩ (fun hc60 => ?_) (fun hc60 => ?_)
        · skip
          refine r_ld (pc' := 94) rfl rfl rfl rfl ?_
          refine r_cVV (pc' := 97) rfl rfl rfl rfl rfl (sh_T ht) (m_78 (d := d) t hs47.1 hs47.2.1 ht) (fun z62 w63 p64 hs66 hE67 => ?_)
          have hs68 := st_tr hs47 hs66 (subS_c (fun _ _ _ _ _ _ => inS_s (inS_0 (by omega) (by omega) (by omega) (by omega))) (subS_c (fun _ _ _ _ _ _ => inS_s (inS_s (inS_0 (by omega) (by omega) (by omega) (by omega)))) subS_n))
          obtain rfl := hE67
          refine r_c0 (pc' := 98) rfl rfl ?_
          have hf69 : z62 t 1 = x1 := ((hs66.2.2.1 _ _ (notS_c (by omega) (notS_c (by omega) notS_n))).trans ((congrFun (congrFun hq46 _) _).trans mu_eq))
          exact r_rz rfl (by omega) (po_I hs68 ⟨by decide, by decide⟩ ⟨rfl, by omega, by omega, (by refine ⟨fun _ => ⟨WHm_y hpi (by omega) (by omega) (by omega) (fun e he => (as1 e (by omega)).1) ?_, by omega⟩, fun q => absurd q (by omega)⟩; exact hht.mp (by omega))⟩)
        · skip
          refine r_c0 (pc' := 92) rfl rfl ?_
          have hf70 : z45 t 1 = x1 := ((congrFun (congrFun hq46 _) _).trans mu_eq)
          exact r_rz rfl (by omega) (po_I hs47 ⟨by decide, by decide⟩ ⟨rfl, by omega, by omega, (by exact ⟨fun q => absurd q (by omega), fun _ q => by have := hht.mpr q.2.2; omega⟩)⟩)
      · skip
        refine r_ld (pc' := 28) rfl rfl rfl rfl ?_
        refine r_gr (b := t + 4) (pc' := 31) rfl rfl (sh_T ht) rfl (pp_T_8 ht) ?_
        refine r_ld (pc' := 32) rfl rfl rfl rfl ?_
        have hb71 := rd_T4 ht hz (i := x2.toNat) (by omega)
        refine r_ia (pc' := 33) rfl rfl (sh_T4 ht) rfl (by omega) (by omega) (hst.2.2.1 _ _ (notS_c (by omega) (notS_c (by omega) (notS_c (by omega) (notS_c (by omega) notS_n))))) ?_
        refine r_c0 (pc' := 34) rfl rfl ?_
        refine r_ieq (pc' := 37) rfl rfl ⟨by omega, by omega⟩ ⟨by decide, by decide⟩ (fun hc72 => ?_) (fun hc72 => ?_)
        · skip
          have hfs := (hpi.2 x2.toNat (by omega)).2.2.2.2 (by omega)
          refine r_ld (pc' := 40) rfl rfl rfl rfl ?_
          refine r_gr (b := t + 2) (pc' := 43) rfl rfl (sh_T ht) rfl (pp_T_6 ht) ?_
          refine r_ld (pc' := 44) rfl rfl rfl rfl ?_
          refine r_gr (b := t + 5) (pc' := 47) rfl rfl (sh_T ht) rfl (pp_T_9 ht) ?_
          refine r_ld (pc' := 48) rfl rfl rfl rfl ?_
          have hb73 := rd_T5 ht hz (i := x2.toNat) (by omega)
          refine r_ia (pc' := 49) rfl rfl (sh_T5 ht) rfl (by omega) (by omega) (hst.2.2.1 _ _ (notS_c (by omega) (notS_c (by omega) (notS_c (by omega) (notS_c (by omega) notS_n))))) ?_
          refine r_ld (pc' := 50) rfl rfl rfl rfl ?_
          refine r_gr (b := t + 6) (pc' := 53) rfl rfl (sh_T ht) rfl (pp_T_10 ht) ?_
          refine r_ld (pc' := 54) rfl rfl rfl rfl ?_
          have hb74 := rd_T6 ht hz (i := x2.toNat) (by omega)
          refine r_ia (pc' := 55) rfl rfl (sh_T6 ht) rfl (by omega) (by omega) (hst.2.2.1 _ _ (notS_c (by omega) (notS_c (by omega) (notS_c (by omega) (notS_c (by omega) notS_n))))) ?_
          refine r_is (pc' := 56) rfl rfl (sh_T2 ht) rfl (by omega) (by omega) hst (inS_s (inS_s (inS_s (inS_0 (by omega) (by omega) (by omega) (by omega))))) (wr_T2 ht ⟨by omega, by omega⟩) (fun z75 hq76 hs77 => ?_)
          refine r_ld (pc' := 57) rfl rfl rfl rfl ?_
          refine r_gr (b := t + 2) (pc' := 60) rfl rfl (sh_T ht) rfl (pp_T_6 ht) ?_
          refine r_ld (pc' := 61) rfl rfl rfl rfl ?_
          refine r_gr (b := t + 6) (pc' := 64) rfl rfl (sh_T ht) rfl (pp_T_10 ht) ?_
          refine r_ld (pc' := 65) rfl rfl rfl rfl ?_
          refine r_ia (pc' := 66) rfl rfl (sh_T6 ht) rfl (by omega) (by omega) (((congrFun (congrFun hq76 _) _).trans (mu_ne (by omega))).trans (hst.2.2.1 _ _ (notS_c (by omega) (notS_c (by omega) (notS_c (by omega) (notS_c (by omega) notS_n)))))) ?_
          refine r_ld (pc' := 67) rfl rfl rfl rfl ?_
          refine r_gr (b := t + 5) (pc' := 70) rfl rfl (sh_T ht) rfl (pp_T_9 ht) ?_
          refine r_ld (pc' := 71) rfl rfl rfl rfl ?_
          refine r_ia (pc' := 72) rfl rfl (sh_T5 ht) rfl (by omega) (by omega) (((congrFun (congrFun hq76 _) _).trans (mu_ne (by omega))).trans (hst.2.2.1 _ _ (notS_c (by omega) (notS_c (by omega) (notS_c (by omega) (notS_c (by omega) notS_n)))))) ?_
          refine r_is (pc' := 73) rfl rfl (sh_T2 ht) rfl (by omega) (by omega) hs77 (inS_s (inS_s (inS_s (inS_0 (by omega) (by omega) (by omega) (by omega))))) (wr_T2 ht ⟨by omega, by omega⟩) (fun z78 hq79 hs80 => ?_)
          refine r_inc (pc' := 76) (lv' := [(0, _), (1, _)]) rfl rfl rfl rfl rfl ?_
          refine r_go rfl ?_
          have hb81 := rd_T_1 ht hz
          have hb82 := rd_T_2 ht hz
          exact w_lv (sub_c rfl (sub_c rfl (sub_c rfl sub_n))) rfl (ih0 x1 (x2 + 1) z78 w ⟨by omega, by omega⟩ ⟨by omega, by omega⟩ hs80 ((((congrFun (congrFun hq79 _) _).trans (mu_ne (by omega))).trans (((congrFun (congrFun hq76 _) _).trans (mu_ne (by omega))).trans un_z_t_1))) ((((congrFun (congrFun hq79 _) _).trans (mu_ne (by omega))).trans (((congrFun (congrFun hq76 _) _).trans (mu_ne (by omega))).trans un_z_t_2))) (by first | (intro e he; exfalso; omega) | (subst hq76 hq79; exact gl_s hpi (by omega) (by omega) (by omega) as1 (fun s h1 h2 => by (simp only [mu]; (repeat' split) <;> first | omega | (simp_all; done) | (simp_all; omega))) (by (simp only [mu]; (repeat' split) <;> first | omega | (simp_all; done) | (simp_all; omega))) (by (simp only [mu]; (repeat' split) <;> first | omega | (simp_all; done) | (simp_all; omega))))) (by first | omega | assumption) (by omega))
        · skip
          refine r_c0 (pc' := 38) rfl rfl ?_
          have hb83 := rd_T_1 ht hz
          have hf84 : z t 1 = z0 t 1 := un_z_t_1
          exact r_rz rfl (by omega) (po_I hst ⟨by decide, by decide⟩ ⟨rfl, by omega, by omega, (by exact ⟨fun q => absurd q (by omega), fun _ => WHm_n (e := x2.toNat) (by omega) (by omega) (by omega) (by omega)⟩)⟩)
  refine w_m rfl rfl ?_
  refine r_ld (pc' := 1) rfl rfl rfl rfl ?_
  have hb85 := rd_T_0 ht hz
  refine r_gi (pc' := 4) rfl rfl (sh_T ht) rfl rfl ?_
  refine r_c0 (pc' := 5) rfl rfl ?_
  refine r_rm (pc' := 6) (v := (z0 t 0) % 2) rfl rfl ⟨by omega, by omega⟩ ⟨by decide, by decide⟩ (by decide) (tmod_n (by omega)) ?_
  refine r_zeq (pc' := 9) rfl rfl ⟨by omega, by omega⟩ (fun hc86 => ?_) (fun hc86 => ?_)
  · skip
    refine r_ld (pc' := 12) rfl rfl rfl rfl ?_
    refine r_gi (pc' := 15) rfl rfl (sh_T ht) rfl rfl ?_
    refine r_c0 (pc' := 16) rfl rfl ?_
    refine r_dv (pc' := 17) (v := (z0 t 0) / 2) rfl rfl ⟨by omega, by omega⟩ ⟨by decide, by decide⟩ (by decide) (tdiv_n (by omega)) ?_
    refine r_c0 (pc' := 18) rfl rfl ?_
    refine r_mul (pc' := 19) rfl rfl ?_
    refine r_st (pc' := 20) (lv' := [(1, _), (0, _)]) rfl rfl rfl rfl ?_
    refine r_c0 (pc' := 21) rfl rfl ?_
    refine r_st (pc' := 22) (lv' := [(2, _), (1, _), (0, _)]) rfl rfl rfl rfl ?_
    have hb87 := rd_T_1 ht hz
    have hb88 := rd_T_2 ht hz
    exact w_lv (sub_c rfl (sub_c rfl (sub_c rfl sub_n))) rfl ((key ((63 * (18 - 0) + 46 : Int).toNat + 1)) (((z0 t 0) / 2) * 3) 0 z0 w0 ⟨by omega, by omega⟩ ⟨by omega, by omega⟩ hst (rfl) (rfl) (by first | (intro e he; exfalso; omega) | (skip; exact gl_s hpi (by omega) (by omega) (by omega) as1 (fun s h1 h2 => by (simp only [mu]; (repeat' split) <;> first | omega | (simp_all; done) | (simp_all; omega))) (by (simp only [mu]; (repeat' split) <;> first | omega | (simp_all; done) | (simp_all; omega))) (by (simp only [mu]; (repeat' split) <;> first | omega | (simp_all; done) | (simp_all; omega))))) (by first | omega | assumption) (by omega))
  · skip
    refine r_c0 (pc' := 10) rfl rfl ?_
    have hb89 := rd_T_1 ht hz
    exact r_rz rfl (by omega) (po_I hst ⟨by decide, by decide⟩ ⟨rfl, by omega, by omega, (by exact ⟨fun q => absurd q (by omega), fun _ q => by have := q.1; omega⟩)⟩)
/-- Reader closePieces -/
abbrev S_35x (t : Nat) : mS := [(3, 3, 5, 5), (t, t, 1, 1), (t + 3, t + 3, 0, 35), (t, t, 2, 2), (t + 2, t + 2, 0, 35), (3, 3, 0, 0), (3, 3, 1, 1)]
abbrev E_35x (t : Nat) (h : Int → Int) (z0 w0 : mZ) (x y mt tt ct : Option Nat) : Int → mZ → mZ → mP → Prop := fun v z w p => p = (pq x y (some 2) (some t) mt tt ct) ∧ 0 ≤ v ∧ v ≤ 1 ∧ ((v = 1 → CCz h z w t ∧ z 3 0 = z0 3 0 ∧ z 3 1 = z0 3 1 ∧ z 3 5 = 1) ∧ (v = 0 → CF h z))
theorem m_35x {d : Nat} {z0 w0 : mZ} {x y mt tt ct : Option Nat} (t : Nat) (h : Int → Int) (hz : rz z0) (hw : rw_ w0) (ht : isT t) (hh : tc z0 = h) (hca : ∃ k, CA h z0 w0 t k ∧ sq h k 0 = 0) (h5 : z0 3 5 = 0) (hk7 : z0 3 7 = 0 ∨ z0 3 7 = 7 ∨ z0 3 7 = 9) : wc (d + 4) 35 [.ref 3] (mk z0 w0 (pq x y (some 2) (some t) mt tt ct)) (poI (S_35x t) z0 w0 (E_35x t h z0 w0 x y mt tt ct)) := by
  have hst : st_ (S_35x t) z0 w0 z0 w0 := st_rf hz hw
  have htb : 159 ≤ t ∧ t ≤ 192 := by have := ht; unfold isT at this; omega
  have hz52 := rd_3_0 hz
  have hz53 := rd_3_1 hz
  have hz54 := rd_3_5 hz
  have hz55 := rd_3_7 hz
  unfold CA TKc at hca
  obtain ⟨k, ⟨⟨e8, e0, e7, eN, eW, eE, e3⟩, hMC⟩, hm⟩ := hca
  have hcs : cs (sq h k) = 0 := if_neg (by omega)
  have hMA := hMC.1.1
  have hpi0 := hMC.2.1.2.2 (by omega)
  rw [hcs, ← hMA.1, Int.add_zero] at hpi0
  have hz0 := rd_T_0 ht hz
  have hWQ : WHq (sq h k) ↔ WHm (z0 t 0) (z0 (t + 1)) (z0 (t + 4)) := (WHm_q (sq h k)).trans (by rw [← hMA.1]; exact WHm_c (fun i hi => (hMC.2.1.1 i (by omega) (by omega)).symm) (fun e he => (hMC.2.1.2.1 e he).symm))
  refine w_m rfl rfl ?_
  refine r_ld (pc' := 1) rfl rfl rfl rfl ?_
  refine r_c0 (pc' := 2) rfl rfl ?_
  refine r_pi (pc' := 5) rfl rfl sh_3 rfl (fit_b (by omega)) hst (inS_0 (by omega) (by omega) (by omega) (by omega)) (wr_3_5 ⟨by omega, by omega⟩) (fun z56 hq57 hs58 => ?_)
  refine r_ld (pc' := 6) rfl rfl rfl rfl ?_
  refine r_gr (b := t) (pc' := 9) rfl rfl sh_3 rfl pp_3_4 ?_
  have n1 : z56 (t + 1) = z0 (t + 1) := funext fun i => ((congrFun (congrFun hq57 _) _).trans (mu_ne (by omega)))
  have n4 : z56 (t + 4) = z0 (t + 4) := funext fun i => ((congrFun (congrFun hq57 _) _).trans (mu_ne (by omega)))
  have n0 : z56 t 0 = z0 t 0 := ((congrFun (congrFun hq57 _) _).trans (mu_ne (by omega)))
  have hb59 := rd_T_0 ht hz
  have hf60 : z56 t 0 = z0 t 0 := ((congrFun (congrFun hq57 _) _).trans (mu_ne (by omega)))
  have hF61 : z56 (t + 1) = z0 (t + 1) := ((congrFun hq57 _).trans (mu_fn (by omega)))
  have hF62 : z56 (t + 4) = z0 (t + 4) := ((congrFun hq57 _).trans (mu_fn (by omega)))
  have hF63 : z56 (t + 5) = z0 (t + 5) := ((congrFun hq57 _).trans (mu_fn (by omega)))
  have hF64 : z56 (t + 6) = z0 (t + 6) := ((congrFun hq57 _).trans (mu_fn (by omega)))
  refine r_cVI (pc' := 12) rfl rfl rfl rfl rfl (sh_T ht) (m_76x (d := d) t hs58.1 hs58.2.1 ht (by simp only [hF61, hF62, hF63, hF64, hf60]; exact hpi0)) (fun v65 z66 w67 p68 h69 hs70 hE71 => ?_)
  have hs72 := st_tr hs58 hs70 (subS_c (fun _ _ _ _ _ _ => inS_s (inS_0 (by omega) (by omega) (by omega) (by omega))) (subS_c (fun _ _ _ _ _ _ => inS_s (inS_s (inS_0 (by omega) (by omega) (by omega) (by omega)))) (subS_c (fun _ _ _ _ _ _ => inS_s (inS_s (inS_s (inS_0 (by omega) (by omega) (by omega) (by omega))))) (subS_c (fun _ _ _ _ _ _ => inS_s (inS_s (inS_s (inS_s (inS_0 (by omega) (by omega) (by omega) (by omega)))))) subS_n))))
  obtain ⟨rfl, hE71⟩ := hE71
  have hgl := hE71.2.2
  rw [n0, n1, n4] at hgl
  refine r_zne (pc' := 15) rfl rfl ⟨by omega, by omega⟩ (fun hc73 => ?_) (fun hc73 => ?_)
  · skip
    refine r_c0 (pc' := 28) rfl rfl ?_
    have hb74 := rd_3_0 hz
    have hf75 : z66 3 0 = z0 3 0 := ((hs70.2.2.1 _ _ (notS_c (by omega) (notS_c (by omega) (notS_c (by omega) (notS_c (by omega) notS_n))))).trans ((congrFun (congrFun hq57 _) _).trans (mu_ne (by omega))))
    have hb76 := rd_3_1 hz
    have hf77 : z66 3 1 = z0 3 1 := ((hs70.2.2.1 _ _ (notS_c (by omega) (notS_c (by omega) (notS_c (by omega) (notS_c (by omega) notS_n))))).trans ((congrFun (congrFun hq57 _) _).trans (mu_ne (by omega))))
    have hf78 : z66 3 5 = 1 := ((hs70.2.2.1 _ _ (notS_c (by omega) (notS_c (by omega) (notS_c (by omega) (notS_c (by omega) notS_n))))).trans ((congrFun (congrFun hq57 _) _).trans mu_eq))
    have hf79 : z66 t 0 = z0 t 0 := ((hs70.2.2.1 _ _ (notS_c (by omega) (notS_c (by omega) (notS_c (by omega) (notS_c (by omega) notS_n))))).trans ((congrFun (congrFun hq57 _) _).trans (mu_ne (by omega))))
    have hb80 := rd_T_1 ht hs72.1
    have hb81 := rd_T_3 ht hz
    have hf82 : z66 t 3 = z0 t 3 := ((hs70.2.2.1 _ _ (notS_c (by omega) (notS_c (by omega) (notS_c (by omega) (notS_c (by omega) notS_n))))).trans ((congrFun (congrFun hq57 _) _).trans (mu_ne (by omega))))
    have hb83 := rd_T_4 ht hz
    have hf84 : z66 t 4 = z0 t 4 := ((hs70.2.2.1 _ _ (notS_c (by omega) (notS_c (by omega) (notS_c (by omega) (notS_c (by omega) notS_n))))).trans ((congrFun (congrFun hq57 _) _).trans (mu_ne (by omega))))
    have hb85 := rd_3_8 hz
    have hf86 : z66 3 8 = z0 3 8 := ((hs70.2.2.1 _ _ (notS_c (by omega) (notS_c (by omega) (notS_c (by omega) (notS_c (by omega) notS_n))))).trans ((congrFun (congrFun hq57 _) _).trans (mu_ne (by omega))))
    exact r_rz rfl (by omega) (po_I hs72 ⟨by decide, by decide⟩ ⟨rfl, by omega, by omega, (by refine ⟨fun _ => ⟨⟨k, ⟨TKc_f (((hs70.2.2.1 _ _ (notS_c (by omega) (notS_c (by omega) (notS_c (by omega) (notS_c (by omega) notS_n))))).trans ((congrFun (congrFun hq57 _) _).trans (mu_ne (by omega))))) (((hs70.2.2.1 _ _ (notS_c (by omega) (notS_c (by omega) (notS_c (by omega) (notS_c (by omega) notS_n))))).trans ((congrFun (congrFun hq57 _) _).trans (mu_ne (by omega))))) (((hs70.2.2.1 _ _ (notS_c (by omega) (notS_c (by omega) (notS_c (by omega) (notS_c (by omega) notS_n))))).trans ((congrFun (congrFun hq57 _) _).trans (mu_ne (by omega))))) (((hs70.2.2.1 _ _ (notS_c (by omega) (notS_c (by omega) (notS_c (by omega) (notS_c (by omega) notS_n))))).trans ((congrFun (congrFun hq57 _) _).trans (mu_ne (by omega))))) ((hs70.2.2.2 _ _ (notS_c (by omega) (notS_c (by omega) (notS_c (by omega) (notS_c (by omega) notS_n)))))) (((hs70.2.2.1 _ _ (notS_c (by omega) (notS_c (by omega) (notS_c (by omega) (notS_c (by omega) notS_n))))).trans ((congrFun (congrFun hq57 _) _).trans (mu_ne (by omega))))) ⟨e8, e0, e7, eN, eW, eE, e3⟩, MC_f rfl rfl rfl rfl rfl (fun _ _ _ _ => rfl) (fun a i h1 h2 => (hs70.2.2.2 _ _ (notS_c (by omega) (notS_c (by omega) (notS_c (by omega) (notS_c (by omega) notS_n)))))) (MC_c (by omega) (by have q9 := (hgl.1 (by omega)).2; show _ = 3 * sq h k 3 / 2; rw [← hMA.1]; exact q9) (by omega) (by omega) (by omega) (fun a i h1 h2 h3 h4 => ((hs70.2.2.1 _ _ (notS_c (by omega) (notS_c (by omega) (notS_c (by omega) (notS_c (by omega) notS_n))))).trans ((congrFun (congrFun hq57 _) _).trans (mu_ne (by omega))))) hMC)⟩, Or.inr (hWQ.mpr (hgl.1 (by omega)).1), hm⟩, by omega, by omega, by omega⟩, fun q => absurd q (by omega)⟩)⟩)
  · skip
    refine r_ld (pc' := 16) rfl rfl rfl rfl ?_
    refine r_cb (pc' := 18) rfl (by decide) rfl ?_
    refine r_ld (pc' := 19) rfl rfl rfl rfl ?_
    have hb87 := rd_3_8 hz
    refine r_gi (pc' := 22) rfl rfl sh_3 rfl ((hs70.2.2.1 _ _ (notS_c (by omega) (notS_c (by omega) (notS_c (by omega) (notS_c (by omega) notS_n))))).trans ((congrFun (congrFun hq57 _) _).trans (mu_ne (by omega)))) ?_
    refine r_cVV (pc' := 25) rfl rfl rfl rfl rfl sh_3 (m_33x (d := d + 2) 6 (z0 3 8) hs72.1 hs72.2.1 ⟨by omega, by omega⟩ ⟨by omega, by omega⟩) (fun z89 w90 p91 hs93 hE94 => ?_)
    have hs95 := st_tr hs72 hs93 (subS_c (fun _ _ _ _ _ _ => inS_s (inS_s (inS_s (inS_s (inS_s (inS_0 (by omega) (by omega) (by omega) (by omega))))))) (subS_c (fun _ _ _ _ _ _ => inS_s (inS_s (inS_s (inS_s (inS_s (inS_s (inS_0 (by omega) (by omega) (by omega) (by omega)))))))) subS_n))
    obtain ⟨rfl, hE94⟩ := hE94
    have hrg := hE94
    refine r_c0 (pc' := 26) rfl rfl ?_
    have hb96 := rd_3_0 hs95.1
    have hb97 := rd_3_1 hs95.1
    have hf98 : z89 3 5 = 1 := ((hs93.2.2.1 _ _ (notS_c (by omega) (notS_c (by omega) notS_n))).trans ((hs70.2.2.1 _ _ (notS_c (by omega) (notS_c (by omega) (notS_c (by omega) (notS_c (by omega) notS_n))))).trans ((congrFun (congrFun hq57 _) _).trans mu_eq)))
    have hf99 : z89 t 0 = z0 t 0 := ((hs93.2.2.1 _ _ (notS_c (by omega) (notS_c (by omega) notS_n))).trans ((hs70.2.2.1 _ _ (notS_c (by omega) (notS_c (by omega) (notS_c (by omega) (notS_c (by omega) notS_n))))).trans ((congrFun (congrFun hq57 _) _).trans (mu_ne (by omega)))))
    have hb100 := rd_T_1 ht hs72.1
    have hf101 : z89 t 1 = z66 t 1 := (hs93.2.2.1 _ _ (notS_c (by omega) (notS_c (by omega) notS_n)))
    have hb102 := rd_T_3 ht hz
    have hf103 : z89 t 3 = z0 t 3 := ((hs93.2.2.1 _ _ (notS_c (by omega) (notS_c (by omega) notS_n))).trans ((hs70.2.2.1 _ _ (notS_c (by omega) (notS_c (by omega) (notS_c (by omega) (notS_c (by omega) notS_n))))).trans ((congrFun (congrFun hq57 _) _).trans (mu_ne (by omega)))))
    have hb104 := rd_T_4 ht hz
    have hf105 : z89 t 4 = z0 t 4 := ((hs93.2.2.1 _ _ (notS_c (by omega) (notS_c (by omega) notS_n))).trans ((hs70.2.2.1 _ _ (notS_c (by omega) (notS_c (by omega) (notS_c (by omega) (notS_c (by omega) notS_n))))).trans ((congrFun (congrFun hq57 _) _).trans (mu_ne (by omega)))))
    have hf106 : z89 3 8 = z0 3 8 := ((hs93.2.2.1 _ _ (notS_c (by omega) (notS_c (by omega) notS_n))).trans ((hs70.2.2.1 _ _ (notS_c (by omega) (notS_c (by omega) (notS_c (by omega) (notS_c (by omega) notS_n))))).trans ((congrFun (congrFun hq57 _) _).trans (mu_ne (by omega)))))
    exact r_rz rfl (by omega) (po_I hs95 ⟨by decide, by decide⟩ ⟨rfl, by omega, by omega, (by refine ⟨fun q => absurd q (by omega), fun _ => ?_⟩; have hnc : ¬ clq (sq h k) := fun c => c.elim (fun c => by omega) (fun c => hgl.2 (by omega) (hWQ.mp c)); rcases hk7 with g | g | g; (exact CF_i (f := 6) (a0_e2 hm (by omega) hnc) (by omega) (by omega) (by omega)); (exact CF_i (f := 6) (a0_lw hm (by omega) hnc) (by omega) (by omega) (by omega)); (exact CF_i (f := 6) (a0_ww hm (by omega) hnc) (by omega) (by omega) (by omega)))⟩)
/-- Reader readGround -/
abbrev S_32x (t : Nat) : mS := [(3, 3, 3, 3), (t, t, 0, 0), (t, t, 1, 1), (t, t, 2, 2), (t, t, 3, 3), (t, t, 4, 4), (t + 4, t + 4, 0, 17), (t + 8, t + 15, 0, 17), (3, 3, 0, 0), (3, 3, 1, 1), (3, 3, 5, 5), (3, 3, 6, 6), (3, 3, 8, 8), (3, 3, 7, 7), (3, 3, 9, 9), (3, 3, 10, 10), (t + 1, t + 1, 0, 35), (t + 6, t + 6, 0, 17), (t + 5, t + 5, 0, 17), (t + 3, t + 3, 0, 35), (t + 2, t + 2, 0, 35), (t + 20, t + 25, 0, 7), (t + 27, t + 32, 0, 7), (t + 17, t + 17, 0, 5), (t + 18, t + 18, 0, 5), (t + 16, t + 16, 0, 7)]
abbrev E_32x (h : Int → Int) (a2 : Int) (t : Nat) (z0 w0 : mZ) (x y tx it mt tt ct : Option Nat) : Int → mZ → mZ → mP → Prop := fun v z w p => p = (pq x y (some 2) (some t) mt tt ct) ∧ 0 ≤ v ∧ v ≤ 1 ∧ ((v = 1 → CEz h z w t ∧ z 3 0 = 0 ∧ z 3 1 = -1) ∧ (v = 0 → CF h z))
theorem m_32x {d : Nat} {z0 w0 : mZ} {x y tx it mt tt ct : Option Nat} (h : Int → Int) (a2 : Int) (t : Nat) (hz : rz z0) (hw : rw_ w0) (ha2 : 0 ≤ a2 ∧ a2 ≤ 1600) (ht : isT t) (hhx : hr (fun i => z0 2 i % 256) a2 = h) : wc (d + 6) 32 [.ref 3, .ref 2, .int (Int32.ofInt a2), .ref t] (mk z0 w0 (pq x y tx it mt tt ct)) (poI (S_32x t) z0 w0 (E_32x h a2 t z0 w0 x y tx it mt tt ct)) := by
  have hst : st_ (S_32x t) z0 w0 z0 w0 := st_rf hz hw
  have htb : 159 ≤ t ∧ t ≤ 192 := by have := ht; unfold isT at this; omega
  have key : ∀ N : Nat, (∀ (x4 : Int) (z w : mZ), 0 ≤ x4 ∧ x4 ≤ 1600 → st_ (S_32x t) z0 w0 z w → ((z 3 0 = 0 → CAz h z w t ∧ z 3 1 = -1 ∧ x4 ≤ z 3 8) ∧ (z 3 0 ≠ 0 → CF h z)) → (tc z = h) → 91 * (1600 - x4) + 59 < (N : Int) → wp_ (d + 5) 32 5 (some .boolean) (54, [(0, .ref 3), (4, .int (Int32.ofInt x4))], [], mk z w (pq x y (some 2) (some t) mt tt ct)) (poI (S_32x t) z0 w0 (E_32x h a2 t z0 w0 x y tx it mt tt ct))) ∧ (∀ (x4 : Int) (z w : mZ), 0 ≤ x4 ∧ x4 ≤ 1599 → st_ (S_32x t) z0 w0 z w → (CAz h z w t) → ((z 3 7 = 7 ∨ z 3 7 = 9) ∧ z 3 0 = 0 ∧ z 3 1 = -1 ∧ x4 ≤ z 3 8) → (tc z = h) → 91 * (1600 - x4) + 31 < (N : Int) → wp_ (d + 5) 32 5 (some .boolean) (118, [(0, .ref 3), (4, .int (Int32.ofInt x4))], [], mk z w (pq x y (some 2) (some t) mt tt ct)) (poI (S_32x t) z0 w0 (E_32x h a2 t z0 w0 x y tx it mt tt ct))) ∧ (∀ (x4 : Int) (z w : mZ), 0 ≤ x4 ∧ x4 ≤ 1599 → st_ (S_32x t) z0 w0 z w → (CCz h z w t) → ((z 3 7 = 7 ∨ z 3 7 = 9) ∧ z 3 0 = 0 ∧ z 3 1 = -1 ∧ x4 ≤ z 3 8 ∧ z 3 5 = 1) → (tc z = h) → 91 * (1600 - x4) + 23 < (N : Int) → wp_ (d + 5) 32 5 (some .boolean) (134, [(0, .ref 3), (4, .int (Int32.ofInt x4))], [], mk z w (pq x y (some 2) (some t) mt tt ct)) (poI (S_32x t) z0 w0 (E_32x h a2 t z0 w0 x y tx it mt tt ct))) ∧ (∀ (z w : mZ), st_ (S_32x t) z0 w0 z w → ((z 3 0 = 0 → CAz h z w t ∧ z 3 1 = -1) ∧ (z 3 0 ≠ 0 → CF h z)) → (z 3 0 = 0 → z 3 7 = 0) → (tc z = h) → 12 < (N : Int) → wp_ (d + 5) 32 5 (some .boolean) (160, [(0, .ref 3)], [], mk z w (pq x y (some 2) (some t) mt tt ct)) (poI (S_32x t) z0 w0 (E_32x h a2 t z0 w0 x y tx it mt tt ct))) := by
    intro N
    induction N with
    | zero =>
      refine ⟨?_, ?_, ?_, ?_⟩
      · intro x4 z w
        intros; exfalso; omega
      · intro x4 z w
        intros; exfalso; omega
      · intro x4 z w
        intros; exfalso; omega
      · intro  z w
        intros; exfalso; omega
    | succ N ih =>
      obtain ⟨ih0, ih1, ih2, ih3⟩ := ih
      refine ⟨?_, ?_, ?_, ?_⟩
      · intro x4 z w  hx4 hst as1 ash hM
        refine r_ld (pc' := 56) rfl rfl rfl rfl ?_
        refine r_cs (pc' := 59) rfl (by decide) rfl ?_
        refine r_ige (pc' := 62) rfl rfl ⟨by omega, by omega⟩ ⟨by decide, by decide⟩ (fun hc141 => ?_) (fun hc141 => ?_)
        · skip
          have hb142 := rd_3_0 hst.1
          have hb143 := rd_3_1 hst.1
          have hb144 := rd_3_7 hst.1
          have hb145 := rd_3_5 hst.1
          have hb146 := rd_3_8 hst.1
          have hb147 := rd_3_3 hst.1
          have hb148 := rd_3_6 hst.1
          exact w_lv (sub_c rfl sub_n) rfl (ih3 z w hst (by exact ⟨fun q => ⟨(as1.1 q).1, (as1.1 q).2.1⟩, as1.2⟩) (by first | omega | (intro q; obtain ⟨⟨k, hcx, hm⟩, hf1, hx8⟩ := as1.1 (by omega); have q9 := hcx.1; unfold TKc at q9; have q8 := rd_3_3 hst.1; rw [q9.2.2.1]; exact tkK_0 (by rw [tc_e ash (by omega)]; omega))) (by first | exact ash | exact (tc_f (fun i => rfl) (rfl)).trans ash) (by omega))
        · skip
          refine r_ld (pc' := 63) rfl rfl rfl rfl ?_
          have hb149 := rd_3_0 hst.1
          refine r_gi (pc' := 66) rfl rfl sh_3 rfl rfl ?_
          refine r_zne (pc' := 69) rfl rfl ⟨by omega, by omega⟩ (fun hc150 => ?_) (fun hc150 => ?_)
          · skip
            have hb151 := rd_3_1 hst.1
            have hb152 := rd_3_7 hst.1
            have hb153 := rd_3_5 hst.1
            have hb154 := rd_3_8 hst.1
            have hb155 := rd_3_3 hst.1
            have hb156 := rd_3_6 hst.1
            exact w_lv (sub_c rfl sub_n) rfl (ih3 z w hst (by exact ⟨fun q => ⟨(as1.1 q).1, (as1.1 q).2.1⟩, as1.2⟩) (by first | omega | (intro q; obtain ⟨⟨k, hcx, hm⟩, hf1, hx8⟩ := as1.1 (by omega); have q9 := hcx.1; unfold TKc at q9; have q8 := rd_3_3 hst.1; rw [q9.2.2.1]; exact tkK_0 (by rw [tc_e ash (by omega)]; omega))) (by first | exact ash | exact (tc_f (fun i => rfl) (rfl)).trans ash) (by omega))
          · skip
            refine r_ld (pc' := 70) rfl rfl rfl rfl ?_
            have hb157 := rd_3_7 hst.1
            refine r_gi (pc' := 73) rfl rfl sh_3 rfl rfl ?_
            refine r_zeq (pc' := 76) rfl rfl ⟨by omega, by omega⟩ (fun hc158 => ?_) (fun hc158 => ?_)
            · skip
              have hb159 := rd_3_1 hst.1
              have hb160 := rd_3_5 hst.1
              have hb161 := rd_3_8 hst.1
              have hb162 := rd_3_3 hst.1
              have hb163 := rd_3_6 hst.1
              exact w_lv (sub_c rfl sub_n) rfl (ih3 z w hst (by exact ⟨fun q => ⟨(as1.1 q).1, (as1.1 q).2.1⟩, as1.2⟩) (by first | omega | (intro q; obtain ⟨⟨k, hcx, hm⟩, hf1, hx8⟩ := as1.1 (by omega); have q9 := hcx.1; unfold TKc at q9; have q8 := rd_3_3 hst.1; rw [q9.2.2.1]; exact tkK_0 (by rw [tc_e ash (by omega)]; omega))) (by first | exact ash | exact (tc_f (fun i => rfl) (rfl)).trans ash) (by omega))
            · skip
              obtain ⟨⟨k, hcx, hm⟩, hf1, hx8⟩ := as1.1 (by omega)
              have hcy := hcx
              unfold CA TKc at hcy
              obtain ⟨⟨f8, f0, f7, fN, fW, fE, f3⟩, hMD⟩ := hcy
              refine r_ld (pc' := 77) rfl rfl rfl rfl ?_
              refine r_gi (pc' := 80) rfl rfl sh_3 rfl rfl ?_
              refine r_cb (pc' := 82) rfl (by decide) rfl ?_
              refine r_ine (pc' := 85) rfl rfl ⟨by omega, by omega⟩ ⟨by decide, by decide⟩ (fun hc164 => ?_) (fun hc164 => ?_)
              · skip
                refine r_ld (pc' := 93) rfl rfl rfl rfl ?_
                refine r_gi (pc' := 96) rfl rfl sh_3 rfl rfl ?_
                refine r_cb (pc' := 98) rfl (by decide) rfl ?_
                refine r_ieq (pc' := 101) rfl rfl ⟨by omega, by omega⟩ ⟨by decide, by decide⟩ (fun hc165 => ?_) (fun hc165 => ?_)
                · skip
                  have hb166 := rd_3_1 hst.1
                  have hb167 := rd_3_8 hst.1
                  have hb168 := rd_3_5 hst.1
                  have hb169 := rd_3_3 hst.1
                  have hb170 := rd_3_6 hst.1
                  exact w_lv (sub_c rfl (sub_c rfl sub_n)) rfl (ih1 x4 z w ⟨by omega, by omega⟩ hst (by exact ⟨k, hcx, hm⟩) (by first | omega | assumption) (by first | exact ash | exact (tc_f (fun i => rfl) (rfl)).trans ash) (by omega))
                · skip
                  refine r_ld (pc' := 102) rfl rfl rfl rfl ?_
                  refine r_gi (pc' := 105) rfl rfl sh_3 rfl rfl ?_
                  refine r_cb (pc' := 107) rfl (by decide) rfl ?_
                  refine r_ieq (pc' := 110) rfl rfl ⟨by omega, by omega⟩ ⟨by decide, by decide⟩ (fun hc171 => ?_) (fun hc171 => ?_)
                  · skip
                    have hb172 := rd_3_1 hst.1
                    have hb173 := rd_3_8 hst.1
                    have hb174 := rd_3_5 hst.1
                    have hb175 := rd_3_3 hst.1
                    have hb176 := rd_3_6 hst.1
                    exact w_lv (sub_c rfl (sub_c rfl sub_n)) rfl (ih1 x4 z w ⟨by omega, by omega⟩ hst (by exact ⟨k, hcx, hm⟩) (by first | omega | assumption) (by first | exact ash | exact (tc_f (fun i => rfl) (rfl)).trans ash) (by omega))
                  · skip
                    refine r_ld (pc' := 111) rfl rfl rfl rfl ?_
                    have hb177 := rd_3_8 hst.1
                    refine r_cVI (pc' := 114) rfl rfl rfl rfl rfl sh_3 (m_34x (d := d + 3)  hst.1 hst.2.1 ) (fun v178 z179 w180 p181 h182 hs183 hE184 => ?_)
                    have hs185 := st_tr hst hs183 (subS_c (fun _ _ _ _ _ _ => inS_s (inS_s (inS_s (inS_s (inS_s (inS_s (inS_s (inS_s (inS_0 (by omega) (by omega) (by omega) (by omega)))))))))) (subS_c (fun _ _ _ _ _ _ => inS_s (inS_s (inS_s (inS_s (inS_s (inS_s (inS_s (inS_s (inS_s (inS_0 (by omega) (by omega) (by omega) (by omega))))))))))) subS_n))
                    obtain ⟨rfl, hE184⟩ := hE184
                    have hrf := hE184
                    refine r_al (pc' := 115) rfl rfl rfl rfl ?_
                    refine r_go rfl ?_
                    refine r_inc (pc' := 157) (lv' := [(0, _)]) rfl rfl rfl rfl rfl ?_
                    refine r_go rfl ?_
                    have hb186 := rd_3_0 hs185.1
                    have hb187 := rd_3_1 hs185.1
                    have hf188 : z179 3 8 = z 3 8 := (hs183.2.2.1 _ _ (notS_c (by omega) (notS_c (by omega) notS_n)))
                    have hb189 := rd_3_5 hst.1
                    have hf190 : z179 3 5 = z 3 5 := (hs183.2.2.1 _ _ (notS_c (by omega) (notS_c (by omega) notS_n)))
                    have hf191 : z179 3 7 = z 3 7 := (hs183.2.2.1 _ _ (notS_c (by omega) (notS_c (by omega) notS_n)))
                    have hb192 := rd_3_3 hst.1
                    have hf193 : z179 3 3 = z 3 3 := (hs183.2.2.1 _ _ (notS_c (by omega) (notS_c (by omega) notS_n)))
                    have hb194 := rd_3_6 hst.1
                    have hf195 : z179 3 6 = z 3 6 := (hs183.2.2.1 _ _ (notS_c (by omega) (notS_c (by omega) notS_n)))
                    exact w_lv (sub_c rfl (sub_c rfl sub_n)) rfl (ih0 (x4 + 1) z179 w180 ⟨by omega, by omega⟩ hs185 (by first | (refine ⟨fun q => absurd q (by rw [hrf.2.2.2.1]; split <;> omega), fun _ => ?_⟩; exact CF_b (a0_b hm (by omega)) (by rw [← f7]; exact hrf.2.2.2.1) (by omega)) | (refine ⟨fun q => ?_, hrr.2⟩; have q9 := hrr.1 q; exact ⟨q9.1, by omega, by omega⟩) | exact ⟨fun _ => ⟨⟨0, ⟨by have q9 := hrt.1; rw [show NOMARK 3 6 = 0 by omega] at q9; exact q9, MC_0 ((NOMARK).trans hcl.1) ((NOMARK).trans hcl.2.1) ((NOMARK).trans hcl.2.2.1) ((NOMARK).trans hcl.2.2.2.1) (by omega) (fun e he => (NOMARK).trans (hcl.2.2.2.2.1 e he)) (fun l e hl he => (NOMARK).trans (hcl.2.2.2.2.2 l e hl he))⟩, rfl⟩, by omega, by omega⟩, fun q => absurd (by omega) q⟩) (by first | exact (tc_f (fun i => (hs183.2.2.1 _ _ (notS_c (by omega) (notS_c (by omega) notS_n)))) ((hs183.2.2.1 _ _ (notS_c (by omega) (notS_c (by omega) notS_n))))).trans ash | exact (tc_f (fun i => NOMARK) (NOMARK)).trans hh0) (by omega))
              · skip
                refine r_ld (pc' := 86) rfl rfl rfl rfl ?_
                have hb196 := rd_3_1 hst.1
                have hb197 := rd_3_8 hst.1
                refine r_cVV (pc' := 89) rfl rfl rfl rfl rfl sh_3 (m_36x (d := d) t h hst.1 hst.2.1 ht (by exact ash) (by exact ⟨k, hcx, hm, by omega⟩) (by first | omega | assumption)) (fun z199 w200 p201 hs203 hE204 => ?_)
                have hs205 := st_tr hst hs203 (subS_c (fun _ _ _ _ _ _ => inS_s (inS_s (inS_s (inS_s (inS_s (inS_s (inS_s (inS_s (inS_s (inS_s (inS_s (inS_0 (by omega) (by omega) (by omega) (by omega))))))))))))) (subS_c (fun _ _ _ _ _ _ => inS_s (inS_s (inS_s (inS_s (inS_s (inS_s (inS_s (inS_s (inS_s (inS_s (inS_s (inS_s (inS_0 (by omega) (by omega) (by omega) (by omega)))))))))))))) (subS_c (fun _ _ _ _ _ _ => inS_s (inS_s (inS_s (inS_s (inS_s (inS_s (inS_s (inS_s (inS_s (inS_s (inS_s (inS_s (inS_s (inS_0 (by omega) (by omega) (by omega) (by omega))))))))))))))) (subS_c (fun _ _ _ _ _ _ => inS_s (inS_s (inS_s (inS_s (inS_s (inS_s (inS_s (inS_s (inS_s (inS_s (inS_s (inS_s (inS_s (inS_s (inS_0 (by omega) (by omega) (by omega) (by omega)))))))))))))))) (subS_c (fun _ _ _ _ _ _ => inS_s (inS_s (inS_s (inS_s (inS_s (inS_s (inS_s (inS_s (inS_s (inS_s (inS_s (inS_s (inS_s (inS_s (inS_s (inS_0 (by omega) (by omega) (by omega) (by omega))))))))))))))))) (subS_c (fun _ _ _ _ _ _ => inS_s (inS_s (inS_s (inS_s (inS_s (inS_s (inS_s (inS_s (inS_0 (by omega) (by omega) (by omega) (by omega)))))))))) (subS_c (fun _ _ _ _ _ _ => inS_s (inS_s (inS_s (inS_s (inS_s (inS_s (inS_s (inS_s (inS_s (inS_0 (by omega) (by omega) (by omega) (by omega))))))))))) (subS_c (fun _ _ _ _ _ _ => inS_s (inS_0 (by omega) (by omega) (by omega) (by omega))) (subS_c (fun _ _ _ _ _ _ => inS_s (inS_s (inS_s (inS_s (inS_s (inS_s (inS_s (inS_s (inS_s (inS_s (inS_s (inS_s (inS_s (inS_s (inS_s (inS_s (inS_0 (by omega) (by omega) (by omega) (by omega)))))))))))))))))) (subS_c (fun _ _ _ _ _ _ => inS_s (inS_s (inS_s (inS_s (inS_s (inS_s (inS_s (inS_s (inS_s (inS_s (inS_s (inS_s (inS_s (inS_s (inS_s (inS_s (inS_s (inS_0 (by omega) (by omega) (by omega) (by omega))))))))))))))))))) (subS_c (fun _ _ _ _ _ _ => inS_s (inS_s (inS_s (inS_s (inS_s (inS_s (inS_0 (by omega) (by omega) (by omega) (by omega)))))))) (subS_c (fun _ _ _ _ _ _ => inS_s (inS_s (inS_s (inS_s (inS_s (inS_s (inS_s (inS_s (inS_s (inS_s (inS_s (inS_s (inS_s (inS_s (inS_s (inS_s (inS_s (inS_s (inS_0 (by omega) (by omega) (by omega) (by omega)))))))))))))))))))) subS_n))))))))))))
                obtain ⟨rfl, hE204⟩ := hE204
                have hrr := hE204
                refine r_go rfl ?_
                refine r_inc (pc' := 157) (lv' := [(0, _)]) rfl rfl rfl rfl rfl ?_
                refine r_go rfl ?_
                have hb206 := rd_3_0 hs205.1
                have hb207 := rd_3_1 hs205.1
                have hb208 := rd_3_8 hs205.1
                have hb209 := rd_3_5 hst.1
                have hf210 : z199 3 5 = z 3 5 := (hs203.2.2.1 _ _ (notS_c (by omega) (notS_c (by omega) (notS_c (by omega) (notS_c (by omega) (notS_c (by omega) (notS_c (by omega) (notS_c (by omega) (notS_c (by omega) (notS_c (by omega) (notS_c (by omega) (notS_c (by omega) (notS_c (by omega) notS_n)))))))))))))
                have hb211 := rd_3_7 hs205.1
                have hb212 := rd_3_3 hst.1
                have hf213 : z199 3 3 = z 3 3 := (hs203.2.2.1 _ _ (notS_c (by omega) (notS_c (by omega) (notS_c (by omega) (notS_c (by omega) (notS_c (by omega) (notS_c (by omega) (notS_c (by omega) (notS_c (by omega) (notS_c (by omega) (notS_c (by omega) (notS_c (by omega) (notS_c (by omega) notS_n)))))))))))))
                have hb214 := rd_3_6 hs205.1
                exact w_lv (sub_c rfl (sub_c rfl sub_n)) rfl (ih0 (x4 + 1) z199 w200 ⟨by omega, by omega⟩ hs205 (by first | (refine ⟨fun q => absurd q (by rw [hrf.2.2.2.1]; split <;> omega), fun _ => ?_⟩; exact CF_b (a0_b hm (by omega)) (by rw [← f7]; exact hrf.2.2.2.1) (by omega)) | (refine ⟨fun q => ?_, hrr.2⟩; have q9 := hrr.1 q; exact ⟨q9.1, by omega, by omega⟩) | exact ⟨fun _ => ⟨⟨0, ⟨by have q9 := hrt.1; rw [show NOMARK 3 6 = 0 by omega] at q9; exact q9, MC_0 ((NOMARK).trans hcl.1) ((NOMARK).trans hcl.2.1) ((NOMARK).trans hcl.2.2.1) ((NOMARK).trans hcl.2.2.2.1) (by omega) (fun e he => (NOMARK).trans (hcl.2.2.2.2.1 e he)) (fun l e hl he => (NOMARK).trans (hcl.2.2.2.2.2 l e hl he))⟩, rfl⟩, by omega, by omega⟩, fun q => absurd (by omega) q⟩) (by first | exact (tc_f (fun i => (hs203.2.2.1 _ _ (notS_c (by omega) (notS_c (by omega) (notS_c (by omega) (notS_c (by omega) (notS_c (by omega) (notS_c (by omega) (notS_c (by omega) (notS_c (by omega) (notS_c (by omega) (notS_c (by omega) (notS_c (by omega) (notS_c (by omega) notS_n)))))))))))))) ((hs203.2.2.1 _ _ (notS_c (by omega) (notS_c (by omega) (notS_c (by omega) (notS_c (by omega) (notS_c (by omega) (notS_c (by omega) (notS_c (by omega) (notS_c (by omega) (notS_c (by omega) (notS_c (by omega) (notS_c (by omega) (notS_c (by omega) notS_n))))))))))))))).trans ash | exact (tc_f (fun i => NOMARK) (NOMARK)).trans hh0) (by omega))
      · intro x4 z w  hx4 hst as1 as2 ash hM
        obtain ⟨k, hcx, hm⟩ := as1
        have hcy := hcx
        unfold CA TKc at hcy
        obtain ⟨⟨f8, f0, f7, fN, fW, fE, f3⟩, hMD⟩ := hcy
        refine r_ld (pc' := 119) rfl rfl rfl rfl ?_
        have hb215 := rd_3_5 hst.1
        refine r_gi (pc' := 122) rfl rfl sh_3 rfl rfl ?_
        refine r_zne (pc' := 125) rfl rfl ⟨by omega, by omega⟩ (fun hc216 => ?_) (fun hc216 => ?_)
        · skip
          have hb217 := rd_3_7 hst.1
          have hb218 := rd_3_0 hst.1
          have hb219 := rd_3_1 hst.1
          have hb220 := rd_3_8 hst.1
          have hb221 := rd_3_3 hst.1
          have hb222 := rd_3_6 hst.1
          exact w_lv (sub_c rfl (sub_c rfl sub_n)) rfl (ih2 x4 z w ⟨by omega, by omega⟩ hst (by first | exact (hcp.1 (by omega)).1 | (have h10 := hMD.1.1.2.2.2; exact ⟨k, ⟨hcx.1, by rw [su_i (by omega)]; exact hMD⟩, Or.inl (by omega), hm⟩)) (by first | omega | assumption) (by first | exact ash | exact (tc_f (fun i => rfl) (rfl)).trans ash) (by omega))
        · skip
          refine r_ld (pc' := 126) rfl rfl rfl rfl ?_
          have hb223 := rd_3_7 hst.1
          have hb224 := rd_3_0 hst.1
          have hb225 := rd_3_1 hst.1
          refine r_cVI (pc' := 129) rfl rfl rfl rfl rfl sh_3 (m_35x (d := d + 1) t h hst.1 hst.2.1 ht (by exact ash) (by exact ⟨k, hcx, hm⟩) (by first | omega | assumption) (by first | omega | assumption)) (fun v226 z227 w228 p229 h230 hs231 hE232 => ?_)
          have hs233 := st_tr hst hs231 (subS_c (fun _ _ _ _ _ _ => inS_s (inS_s (inS_s (inS_s (inS_s (inS_s (inS_s (inS_s (inS_s (inS_s (inS_0 (by omega) (by omega) (by omega) (by omega)))))))))))) (subS_c (fun _ _ _ _ _ _ => inS_s (inS_s (inS_0 (by omega) (by omega) (by omega) (by omega)))) (subS_c (fun _ _ _ _ _ _ => inS_s (inS_s (inS_s (inS_s (inS_s (inS_s (inS_s (inS_s (inS_s (inS_s (inS_s (inS_s (inS_s (inS_s (inS_s (inS_s (inS_s (inS_s (inS_s (inS_0 (by omega) (by omega) (by omega) (by omega))))))))))))))))))))) (subS_c (fun _ _ _ _ _ _ => inS_s (inS_s (inS_s (inS_0 (by omega) (by omega) (by omega) (by omega))))) (subS_c (fun _ _ _ _ _ _ => inS_s (inS_s (inS_s (inS_s (inS_s (inS_s (inS_s (inS_s (inS_s (inS_s (inS_s (inS_s (inS_s (inS_s (inS_s (inS_s (inS_s (inS_s (inS_s (inS_s (inS_0 (by omega) (by omega) (by omega) (by omega)))))))))))))))))))))) (subS_c (fun _ _ _ _ _ _ => inS_s (inS_s (inS_s (inS_s (inS_s (inS_s (inS_s (inS_s (inS_0 (by omega) (by omega) (by omega) (by omega)))))))))) (subS_c (fun _ _ _ _ _ _ => inS_s (inS_s (inS_s (inS_s (inS_s (inS_s (inS_s (inS_s (inS_s (inS_0 (by omega) (by omega) (by omega) (by omega))))))))))) subS_n)))))))
          obtain ⟨rfl, hE232⟩ := hE232
          have hcp := hE232.2.2
          refine r_zne (pc' := 132) rfl rfl ⟨by omega, by omega⟩ (fun hc234 => ?_) (fun hc234 => ?_)
          · skip
            have hf235 : z227 3 7 = z 3 7 := (hs231.2.2.1 _ _ (notS_c (by omega) (notS_c (by omega) (notS_c (by omega) (notS_c (by omega) (notS_c (by omega) (notS_c (by omega) (notS_c (by omega) notS_n))))))))
            have hb236 := rd_3_0 hs233.1
            have hb237 := rd_3_1 hs233.1
            have hb238 := rd_3_8 hst.1
            have hf239 : z227 3 8 = z 3 8 := (hs231.2.2.1 _ _ (notS_c (by omega) (notS_c (by omega) (notS_c (by omega) (notS_c (by omega) (notS_c (by omega) (notS_c (by omega) (notS_c (by omega) notS_n))))))))
            have hb240 := rd_3_5 hs233.1
            have hb241 := rd_3_3 hst.1
            have hf242 : z227 3 3 = z 3 3 := (hs231.2.2.1 _ _ (notS_c (by omega) (notS_c (by omega) (notS_c (by omega) (notS_c (by omega) (notS_c (by omega) (notS_c (by omega) (notS_c (by omega) notS_n))))))))
            have hb243 := rd_3_6 hst.1
            have hf244 : z227 3 6 = z 3 6 := (hs231.2.2.1 _ _ (notS_c (by omega) (notS_c (by omega) (notS_c (by omega) (notS_c (by omega) (notS_c (by omega) (notS_c (by omega) (notS_c (by omega) notS_n))))))))
            exact w_lv (sub_c rfl (sub_c rfl sub_n)) rfl (ih2 x4 z227 w228 ⟨by omega, by omega⟩ hs233 (by first | exact (hcp.1 (by omega)).1 | (have h10 := hMD.1.1.2.2.2; exact ⟨k, ⟨hcx.1, by rw [su_i (by omega)]; exact hMD⟩, Or.inl (by omega), hm⟩)) (by first | omega | assumption | (simp only [hf235, hf239, hf242, hf244]; assumption)) (by first | exact ash | exact (tc_f (fun i => (hs231.2.2.1 _ _ (notS_c (by omega) (notS_c (by omega) (notS_c (by omega) (notS_c (by omega) (notS_c (by omega) (notS_c (by omega) (notS_c (by omega) notS_n))))))))) ((hs231.2.2.1 _ _ (notS_c (by omega) (notS_c (by omega) (notS_c (by omega) (notS_c (by omega) (notS_c (by omega) (notS_c (by omega) (notS_c (by omega) notS_n)))))))))).trans ash) (by omega))
          · skip
            refine r_c0 (pc' := 133) rfl rfl ?_
            have hb245 := rd_3_0 hs233.1
            have hb246 := rd_3_1 hs233.1
            have hb247 := rd_3_5 hs233.1
            have hf248 : z227 3 7 = z 3 7 := (hs231.2.2.1 _ _ (notS_c (by omega) (notS_c (by omega) (notS_c (by omega) (notS_c (by omega) (notS_c (by omega) (notS_c (by omega) (notS_c (by omega) notS_n))))))))
            exact r_rz rfl (by omega) (po_I hs233 ⟨by decide, by decide⟩ ⟨rfl, by omega, by omega, (by exact ⟨fun q => absurd q (by omega), fun _ => hcp.2 (by omega)⟩)⟩)
      · intro x4 z w  hx4 hst as1 as2 ash hM
        refine r_ld (pc' := 135) rfl rfl rfl rfl ?_
        have hb249 := rd_3_7 hst.1
        refine r_gi (pc' := 138) rfl rfl sh_3 rfl rfl ?_
        refine r_cb (pc' := 140) rfl (by decide) rfl ?_
        refine r_ine (pc' := 143) rfl rfl ⟨by omega, by omega⟩ ⟨by decide, by decide⟩ (fun hc250 => ?_) (fun hc250 => ?_)
        · skip
          refine r_ld (pc' := 151) rfl rfl rfl rfl ?_
          have hb251 := rd_3_0 hst.1
          have hb252 := rd_3_5 hst.1
          have hb253 := rd_3_1 hst.1
          have hb254 := rd_3_8 hst.1
          refine r_cVV (pc' := 154) rfl rfl rfl rfl rfl sh_3 (m_39x (d := d) t h hst.1 hst.2.1 ht (by exact ash) (by obtain ⟨k, q1, q2, q3⟩ := as1; have q9 := q1.1; unfold TKc at q9; exact ⟨k, q1, q2, q3, by omega⟩) (by first | omega | assumption) (by first | omega | assumption)) (fun z256 w257 p258 hs260 hE261 => ?_)
          have hs262 := st_tr hst hs260 (subS_c (fun _ _ _ _ _ _ => inS_s (inS_s (inS_s (inS_s (inS_s (inS_s (inS_s (inS_s (inS_s (inS_s (inS_s (inS_0 (by omega) (by omega) (by omega) (by omega))))))))))))) (subS_c (fun _ _ _ _ _ _ => inS_s (inS_s (inS_s (inS_s (inS_s (inS_s (inS_s (inS_s (inS_s (inS_s (inS_s (inS_s (inS_0 (by omega) (by omega) (by omega) (by omega)))))))))))))) (subS_c (fun _ _ _ _ _ _ => inS_s (inS_s (inS_s (inS_s (inS_s (inS_s (inS_s (inS_s (inS_s (inS_s (inS_s (inS_s (inS_s (inS_0 (by omega) (by omega) (by omega) (by omega))))))))))))))) (subS_c (fun _ _ _ _ _ _ => inS_s (inS_s (inS_s (inS_s (inS_s (inS_s (inS_s (inS_s (inS_s (inS_s (inS_s (inS_s (inS_s (inS_s (inS_0 (by omega) (by omega) (by omega) (by omega)))))))))))))))) (subS_c (fun _ _ _ _ _ _ => inS_s (inS_s (inS_s (inS_s (inS_s (inS_s (inS_s (inS_s (inS_s (inS_s (inS_s (inS_s (inS_s (inS_s (inS_s (inS_0 (by omega) (by omega) (by omega) (by omega))))))))))))))))) (subS_c (fun _ _ _ _ _ _ => inS_s (inS_s (inS_s (inS_s (inS_s (inS_s (inS_s (inS_s (inS_0 (by omega) (by omega) (by omega) (by omega)))))))))) (subS_c (fun _ _ _ _ _ _ => inS_s (inS_s (inS_s (inS_s (inS_s (inS_s (inS_s (inS_s (inS_s (inS_0 (by omega) (by omega) (by omega) (by omega))))))))))) (subS_c (fun _ _ _ _ _ _ => inS_s (inS_s (inS_s (inS_s (inS_s (inS_s (inS_s (inS_s (inS_s (inS_s (inS_s (inS_s (inS_s (inS_s (inS_s (inS_s (inS_s (inS_s (inS_s (inS_s (inS_s (inS_0 (by omega) (by omega) (by omega) (by omega))))))))))))))))))))))) (subS_c (fun _ _ _ _ _ _ => inS_s (inS_s (inS_s (inS_s (inS_s (inS_s (inS_s (inS_s (inS_s (inS_s (inS_s (inS_s (inS_s (inS_s (inS_s (inS_s (inS_s (inS_s (inS_s (inS_s (inS_s (inS_s (inS_0 (by omega) (by omega) (by omega) (by omega)))))))))))))))))))))))) (subS_c (fun _ _ _ _ _ _ => inS_s (inS_s (inS_s (inS_s (inS_s (inS_s (inS_s (inS_s (inS_s (inS_s (inS_s (inS_s (inS_s (inS_s (inS_s (inS_s (inS_s (inS_s (inS_s (inS_s (inS_s (inS_s (inS_s (inS_0 (by omega) (by omega) (by omega) (by omega))))))))))))))))))))))))) (subS_c (fun _ _ _ _ _ _ => inS_s (inS_s (inS_s (inS_s (inS_s (inS_s (inS_s (inS_s (inS_s (inS_s (inS_s (inS_s (inS_s (inS_s (inS_s (inS_s (inS_s (inS_s (inS_s (inS_s (inS_s (inS_s (inS_s (inS_s (inS_0 (by omega) (by omega) (by omega) (by omega)))))))))))))))))))))))))) (subS_c (fun _ _ _ _ _ _ => inS_s (inS_s (inS_s (inS_s (inS_s (inS_0 (by omega) (by omega) (by omega) (by omega))))))) subS_n))))))))))))
          obtain ⟨rfl, hE261⟩ := hE261
          have hrr := hE261
          refine r_inc (pc' := 157) (lv' := [(0, _)]) rfl rfl rfl rfl rfl ?_
          refine r_go rfl ?_
          have hb263 := rd_3_0 hs262.1
          have hb264 := rd_3_1 hs262.1
          have hb265 := rd_3_8 hs262.1
          have hf266 : z256 3 5 = z 3 5 := (hs260.2.2.1 _ _ (notS_c (by omega) (notS_c (by omega) (notS_c (by omega) (notS_c (by omega) (notS_c (by omega) (notS_c (by omega) (notS_c (by omega) (notS_c (by omega) (notS_c (by omega) (notS_c (by omega) (notS_c (by omega) (notS_c (by omega) notS_n)))))))))))))
          have hb267 := rd_3_7 hs262.1
          have hb268 := rd_3_3 hst.1
          have hf269 : z256 3 3 = z 3 3 := (hs260.2.2.1 _ _ (notS_c (by omega) (notS_c (by omega) (notS_c (by omega) (notS_c (by omega) (notS_c (by omega) (notS_c (by omega) (notS_c (by omega) (notS_c (by omega) (notS_c (by omega) (notS_c (by omega) (notS_c (by omega) (notS_c (by omega) notS_n)))))))))))))
          have hb270 := rd_3_6 hs262.1
          exact w_lv (sub_c rfl (sub_c rfl sub_n)) rfl (ih0 (x4 + 1) z256 w257 ⟨by omega, by omega⟩ hs262 (by first | (refine ⟨fun q => absurd q (by rw [hrf.2.2.2.1]; split <;> omega), fun _ => ?_⟩; exact CF_b (a0_b hm (by omega)) (by rw [← f7]; exact hrf.2.2.2.1) (by omega)) | (refine ⟨fun q => ?_, hrr.2⟩; have q9 := hrr.1 q; exact ⟨q9.1, by omega, by omega⟩) | exact ⟨fun _ => ⟨⟨0, ⟨by have q9 := hrt.1; rw [show NOMARK 3 6 = 0 by omega] at q9; exact q9, MC_0 ((NOMARK).trans hcl.1) ((NOMARK).trans hcl.2.1) ((NOMARK).trans hcl.2.2.1) ((NOMARK).trans hcl.2.2.2.1) (by omega) (fun e he => (NOMARK).trans (hcl.2.2.2.2.1 e he)) (fun l e hl he => (NOMARK).trans (hcl.2.2.2.2.2 l e hl he))⟩, rfl⟩, by omega, by omega⟩, fun q => absurd (by omega) q⟩) (by first | exact (tc_f (fun i => (hs260.2.2.1 _ _ (notS_c (by omega) (notS_c (by omega) (notS_c (by omega) (notS_c (by omega) (notS_c (by omega) (notS_c (by omega) (notS_c (by omega) (notS_c (by omega) (notS_c (by omega) (notS_c (by omega) (notS_c (by omega) (notS_c (by omega) notS_n)))))))))))))) ((hs260.2.2.1 _ _ (notS_c (by omega) (notS_c (by omega) (notS_c (by omega) (notS_c (by omega) (notS_c (by omega) (notS_c (by omega) (notS_c (by omega) (notS_c (by omega) (notS_c (by omega) (notS_c (by omega) (notS_c (by omega) (notS_c (by omega) notS_n))))))))))))))).trans ash | exact (tc_f (fun i => NOMARK) (NOMARK)).trans hh0) (by omega))
        · skip
          refine r_ld (pc' := 144) rfl rfl rfl rfl ?_
          have hb271 := rd_3_0 hst.1
          have hb272 := rd_3_5 hst.1
          have hb273 := rd_3_1 hst.1
          have hb274 := rd_3_8 hst.1
          refine r_cVV (pc' := 147) rfl rfl rfl rfl rfl sh_3 (m_38x (d := d) t h hst.1 hst.2.1 ht (by exact ash) (by obtain ⟨k, q1, q2, q3⟩ := as1; have q9 := q1.1; unfold TKc at q9; exact ⟨k, q1, q2, q3, by omega⟩) (by first | omega | assumption) (by first | omega | assumption)) (fun z276 w277 p278 hs280 hE281 => ?_)
          have hs282 := st_tr hst hs280 (subS_c (fun _ _ _ _ _ _ => inS_s (inS_s (inS_s (inS_s (inS_s (inS_s (inS_s (inS_s (inS_s (inS_s (inS_s (inS_0 (by omega) (by omega) (by omega) (by omega))))))))))))) (subS_c (fun _ _ _ _ _ _ => inS_s (inS_s (inS_s (inS_s (inS_s (inS_s (inS_s (inS_s (inS_s (inS_s (inS_s (inS_s (inS_0 (by omega) (by omega) (by omega) (by omega)))))))))))))) (subS_c (fun _ _ _ _ _ _ => inS_s (inS_s (inS_s (inS_s (inS_s (inS_s (inS_s (inS_s (inS_s (inS_s (inS_s (inS_s (inS_s (inS_0 (by omega) (by omega) (by omega) (by omega))))))))))))))) (subS_c (fun _ _ _ _ _ _ => inS_s (inS_s (inS_s (inS_s (inS_s (inS_s (inS_s (inS_s (inS_s (inS_s (inS_s (inS_s (inS_s (inS_s (inS_0 (by omega) (by omega) (by omega) (by omega)))))))))))))))) (subS_c (fun _ _ _ _ _ _ => inS_s (inS_s (inS_s (inS_s (inS_s (inS_s (inS_s (inS_s (inS_s (inS_s (inS_s (inS_s (inS_s (inS_s (inS_s (inS_0 (by omega) (by omega) (by omega) (by omega))))))))))))))))) (subS_c (fun _ _ _ _ _ _ => inS_s (inS_s (inS_s (inS_s (inS_s (inS_s (inS_s (inS_s (inS_0 (by omega) (by omega) (by omega) (by omega)))))))))) (subS_c (fun _ _ _ _ _ _ => inS_s (inS_s (inS_s (inS_s (inS_s (inS_s (inS_s (inS_s (inS_s (inS_0 (by omega) (by omega) (by omega) (by omega))))))))))) (subS_c (fun _ _ _ _ _ _ => inS_s (inS_s (inS_s (inS_s (inS_s (inS_s (inS_s (inS_0 (by omega) (by omega) (by omega) (by omega))))))))) (subS_c (fun _ _ _ _ _ _ => inS_s (inS_s (inS_s (inS_s (inS_s (inS_s (inS_s (inS_s (inS_s (inS_s (inS_s (inS_s (inS_s (inS_s (inS_s (inS_s (inS_s (inS_s (inS_s (inS_s (inS_s (inS_s (inS_s (inS_s (inS_s (inS_0 (by omega) (by omega) (by omega) (by omega))))))))))))))))))))))))))) (subS_c (fun _ _ _ _ _ _ => inS_s (inS_s (inS_s (inS_s (inS_0 (by omega) (by omega) (by omega) (by omega)))))) subS_n))))))))))
          obtain ⟨rfl, hE281⟩ := hE281
          have hrr := hE281
          refine r_go rfl ?_
          refine r_inc (pc' := 157) (lv' := [(0, _)]) rfl rfl rfl rfl rfl ?_
          refine r_go rfl ?_
          have hb283 := rd_3_0 hs282.1
          have hb284 := rd_3_1 hs282.1
          have hb285 := rd_3_8 hs282.1
          have hf286 : z276 3 5 = z 3 5 := (hs280.2.2.1 _ _ (notS_c (by omega) (notS_c (by omega) (notS_c (by omega) (notS_c (by omega) (notS_c (by omega) (notS_c (by omega) (notS_c (by omega) (notS_c (by omega) (notS_c (by omega) (notS_c (by omega) notS_n)))))))))))
          have hb287 := rd_3_7 hs282.1
          have hb288 := rd_3_3 hst.1
          have hf289 : z276 3 3 = z 3 3 := (hs280.2.2.1 _ _ (notS_c (by omega) (notS_c (by omega) (notS_c (by omega) (notS_c (by omega) (notS_c (by omega) (notS_c (by omega) (notS_c (by omega) (notS_c (by omega) (notS_c (by omega) (notS_c (by omega) notS_n)))))))))))
          have hb290 := rd_3_6 hs282.1
          exact w_lv (sub_c rfl (sub_c rfl sub_n)) rfl (ih0 (x4 + 1) z276 w277 ⟨by omega, by omega⟩ hs282 (by first | (refine ⟨fun q => absurd q (by rw [hrf.2.2.2.1]; split <;> omega), fun _ => ?_⟩; exact CF_b (a0_b hm (by omega)) (by rw [← f7]; exact hrf.2.2.2.1) (by omega)) | (refine ⟨fun q => ?_, hrr.2⟩; have q9 := hrr.1 q; exact ⟨q9.1, by omega, by omega⟩) | exact ⟨fun _ => ⟨⟨0, ⟨by have q9 := hrt.1; rw [show NOMARK 3 6 = 0 by omega] at q9; exact q9, MC_0 ((NOMARK).trans hcl.1) ((NOMARK).trans hcl.2.1) ((NOMARK).trans hcl.2.2.1) ((NOMARK).trans hcl.2.2.2.1) (by omega) (fun e he => (NOMARK).trans (hcl.2.2.2.2.1 e he)) (fun l e hl he => (NOMARK).trans (hcl.2.2.2.2.2 l e hl he))⟩, rfl⟩, by omega, by omega⟩, fun q => absurd (by omega) q⟩) (by first | exact (tc_f (fun i => (hs280.2.2.1 _ _ (notS_c (by omega) (notS_c (by omega) (notS_c (by omega) (notS_c (by omega) (notS_c (by omega) (notS_c (by omega) (notS_c (by omega) (notS_c (by omega) (notS_c (by omega) (notS_c (by omega) notS_n)))))))))))) ((hs280.2.2.1 _ _ (notS_c (by omega) (notS_c (by omega) (notS_c (by omega) (notS_c (by omega) (notS_c (by omega) (notS_c (by omega) (notS_c (by omega) (notS_c (by omega) (notS_c (by omega) (notS_c (by omega) notS_n))))))))))))).trans ash | exact (tc_f (fun i => NOMARK) (NOMARK)).trans hh0) (by omega))
      · intro  z w  hst as1 as3 ash hM
        refine r_ld (pc' := 161) rfl rfl rfl rfl ?_
        have hb291 := rd_3_0 hst.1
        refine r_gi (pc' := 164) rfl rfl sh_3 rfl rfl ?_
        refine r_zne (pc' := 167) rfl rfl ⟨by omega, by omega⟩ (fun hc292 => ?_) (fun hc292 => ?_)
        · skip
          refine r_c0 (pc' := 186) rfl rfl ?_
          have hb293 := rd_3_1 hst.1
          have hb294 := rd_3_5 hst.1
          have hb295 := rd_3_7 hst.1
          exact r_rz rfl (by omega) (po_I hst ⟨by decide, by decide⟩ ⟨rfl, by omega, by omega, (by first | (exact ⟨fun q => absurd q (by omega), fun _ => hcp.2 (by omega)⟩) | (have q9 := hcp.1 (by omega); obtain ⟨⟨k2, q1, q2, q3⟩, q4⟩ := q9; have q5 := q1.1; unfold TKc at q5; exact ⟨fun _ => ⟨CEz_i q3 (by omega) q1.2 q2, by omega, by omega⟩, fun q => absurd q (by omega)⟩) | exact ⟨fun q => absurd q (by omega), fun _ => as1.2 (by omega)⟩ | (have h10 := hMD.1.1.2.2.2; exact ⟨fun _ => ⟨CEz_i hm (by omega) (by rw [su_i (by omega)]; exact hMD) (Or.inl (by omega)), by omega, by omega⟩, fun q => absurd q (by omega)⟩))⟩)
        · skip
          obtain ⟨⟨k, hcx, hm⟩, hf1⟩ := as1.1 (by omega)
          have hk0 := as3 (by omega)
          have hcy := hcx
          unfold CA TKc at hcy
          obtain ⟨⟨f8, f0, f7, fN, fW, fE, f3⟩, hMD⟩ := hcy
          refine r_ld (pc' := 168) rfl rfl rfl rfl ?_
          have hb296 := rd_3_5 hst.1
          refine r_gi (pc' := 171) rfl rfl sh_3 rfl rfl ?_
          refine r_zne (pc' := 174) rfl rfl ⟨by omega, by omega⟩ (fun hc297 => ?_) (fun hc297 => ?_)
          · skip
            refine r_c0 (pc' := 182) rfl rfl ?_
            refine r_go rfl ?_
            have hb298 := rd_3_1 hst.1
            have hb299 := rd_3_7 hst.1
            exact r_rz rfl (by omega) (po_I hst ⟨by decide, by decide⟩ ⟨rfl, by omega, by omega, (by first | (exact ⟨fun q => absurd q (by omega), fun _ => hcp.2 (by omega)⟩) | (have q9 := hcp.1 (by omega); obtain ⟨⟨k2, q1, q2, q3⟩, q4⟩ := q9; have q5 := q1.1; unfold TKc at q5; exact ⟨fun _ => ⟨CEz_i q3 (by omega) q1.2 q2, by omega, by omega⟩, fun q => absurd q (by omega)⟩) | exact ⟨fun q => absurd q (by omega), fun _ => as1.2 (by omega)⟩ | (have h10 := hMD.1.1.2.2.2; exact ⟨fun _ => ⟨CEz_i hm (by omega) (by rw [su_i (by omega)]; exact hMD) (Or.inl (by omega)), by omega, by omega⟩, fun q => absurd q (by omega)⟩))⟩)
          · skip
            refine r_ld (pc' := 175) rfl rfl rfl rfl ?_
            have hb300 := rd_3_7 hst.1
            have hb301 := rd_3_1 hst.1
            refine r_cVI (pc' := 178) rfl rfl rfl rfl rfl sh_3 (m_35x (d := d + 1) t h hst.1 hst.2.1 ht (by exact ash) (by exact ⟨k, hcx, hm⟩) (by first | omega | assumption) (by first | omega | assumption)) (fun v302 z303 w304 p305 h306 hs307 hE308 => ?_)
            have hs309 := st_tr hst hs307 (subS_c (fun _ _ _ _ _ _ => inS_s (inS_s (inS_s (inS_s (inS_s (inS_s (inS_s (inS_s (inS_s (inS_s (inS_0 (by omega) (by omega) (by omega) (by omega)))))))))))) (subS_c (fun _ _ _ _ _ _ => inS_s (inS_s (inS_0 (by omega) (by omega) (by omega) (by omega)))) (subS_c (fun _ _ _ _ _ _ => inS_s (inS_s (inS_s (inS_s (inS_s (inS_s (inS_s (inS_s (inS_s (inS_s (inS_s (inS_s (inS_s (inS_s (inS_s (inS_s (inS_s (inS_s (inS_s (inS_0 (by omega) (by omega) (by omega) (by omega))))))))))))))))))))) (subS_c (fun _ _ _ _ _ _ => inS_s (inS_s (inS_s (inS_0 (by omega) (by omega) (by omega) (by omega))))) (subS_c (fun _ _ _ _ _ _ => inS_s (inS_s (inS_s (inS_s (inS_s (inS_s (inS_s (inS_s (inS_s (inS_s (inS_s (inS_s (inS_s (inS_s (inS_s (inS_s (inS_s (inS_s (inS_s (inS_s (inS_0 (by omega) (by omega) (by omega) (by omega)))))))))))))))))))))) (subS_c (fun _ _ _ _ _ _ => inS_s (inS_s (inS_s (inS_s (inS_s (inS_s (inS_s (inS_s (inS_0 (by omega) (by omega) (by omega) (by omega)))))))))) (subS_c (fun _ _ _ _ _ _ => inS_s (inS_s (inS_s (inS_s (inS_s (inS_s (inS_s (inS_s (inS_s (inS_0 (by omega) (by omega) (by omega) (by omega))))))))))) subS_n)))))))
            obtain ⟨rfl, hE308⟩ := hE308
            have hcp := hE308.2.2
            refine r_zeq (pc' := 181) rfl rfl ⟨by omega, by omega⟩ (fun hc310 => ?_) (fun hc310 => ?_)
            · skip
              refine r_c0 (pc' := 186) rfl rfl ?_
              have hb311 := rd_3_0 hs309.1
              have hb312 := rd_3_1 hs309.1
              have hb313 := rd_3_5 hs309.1
              have hf314 : z303 3 7 = z 3 7 := (hs307.2.2.1 _ _ (notS_c (by omega) (notS_c (by omega) (notS_c (by omega) (notS_c (by omega) (notS_c (by omega) (notS_c (by omega) (notS_c (by omega) notS_n))))))))
              exact r_rz rfl (by omega) (po_I hs309 ⟨by decide, by decide⟩ ⟨rfl, by omega, by omega, (by first | (exact ⟨fun q => absurd q (by omega), fun _ => hcp.2 (by omega)⟩) | (have q9 := hcp.1 (by omega); obtain ⟨⟨k2, q1, q2, q3⟩, q4⟩ := q9; have q5 := q1.1; unfold TKc at q5; exact ⟨fun _ => ⟨CEz_i q3 (by omega) q1.2 q2, by omega, by omega⟩, fun q => absurd q (by omega)⟩) | exact ⟨fun q => absurd q (by omega), fun _ => as1.2 (by omega)⟩ | (have h10 := hMD.1.1.2.2.2; exact ⟨fun _ => ⟨CEz_i hm (by omega) (by rw [su_i (by omega)]; exact hMD) (Or.inl (by omega)), by omega, by omega⟩, fun q => absurd q (by omega)⟩))⟩)
            · skip
              refine r_c0 (pc' := 182) rfl rfl ?_
              refine r_go rfl ?_
              have hb315 := rd_3_0 hs309.1
              have hb316 := rd_3_1 hs309.1
              have hb317 := rd_3_5 hs309.1
              have hf318 : z303 3 7 = z 3 7 := (hs307.2.2.1 _ _ (notS_c (by omega) (notS_c (by omega) (notS_c (by omega) (notS_c (by omega) (notS_c (by omega) (notS_c (by omega) (notS_c (by omega) notS_n))))))))
              exact r_rz rfl (by omega) (po_I hs309 ⟨by decide, by decide⟩ ⟨rfl, by omega, by omega, (by first | (exact ⟨fun q => absurd q (by omega), fun _ => hcp.2 (by omega)⟩) | (have q9 := hcp.1 (by omega); obtain ⟨⟨k2, q1, q2, q3⟩, q4⟩ := q9; have q5 := q1.1; unfold TKc at q5; exact ⟨fun _ => ⟨CEz_i q3 (by omega) q1.2 q2, by omega, by omega⟩, fun q => absurd q (by omega)⟩) | exact ⟨fun q => absurd q (by omega), fun _ => as1.2 (by omega)⟩ | (have h10 := hMD.1.1.2.2.2; exact ⟨fun _ => ⟨CEz_i hm (by omega) (by rw [su_i (by omega)]; exact hMD) (Or.inl (by omega)), by omega, by omega⟩, fun q => absurd q (by omega)⟩))⟩)
  refine w_m rfl rfl ?_
  refine r_ld (pc' := 1) rfl rfl rfl rfl ?_
  refine r_ld (pc' := 2) rfl rfl rfl rfl ?_
  refine r_pr (b := some 2) (pc' := 5) rfl rfl sh_3 rfl rfl pq_u2 ?_
  refine r_ld (pc' := 6) rfl rfl rfl rfl ?_
  refine r_ld (pc' := 7) rfl rfl rfl rfl ?_
  refine r_ld (pc' := 8) rfl rfl rfl rfl ?_
  refine r_len (pc' := 9) rfl rfl sh_2 (by decide) ?_
  refine r_cSI (pc' := 12) rfl rfl rfl rfl rfl (m_263 (d := d + 4) a2 (((1600 : Nat) : Int)) hst.1 hst.2.1 ⟨by omega, by omega⟩ ⟨by omega, by omega⟩) (fun v319 z320 w321 p322 h323 hs324 hE325 => ?_)
  obtain ⟨rfl, rfl, rfl, hE325⟩ := hE325
  refine r_pi (pc' := 15) rfl rfl sh_3 rfl rfl hst (inS_0 (by omega) (by omega) (by omega) (by omega)) (wr_3_3 ⟨by omega, by omega⟩) (fun z327 hq328 hs329 => ?_)
  have h330 : z327 3 3 = v319 := (congrFun (congrFun hq328 _) _).trans mu_eq
  refine r_ld (pc' := 16) rfl rfl rfl rfl ?_
  refine r_ld (pc' := 17) rfl rfl rfl rfl ?_
  refine r_pr (b := some t) (pc' := 20) rfl rfl sh_3 rfl rfl pq_u3 ?_
  refine r_ld (pc' := 21) rfl rfl rfl rfl ?_
  refine r_gr (b := t) (pc' := 24) rfl rfl sh_3 rfl pp_3_4 ?_
  refine r_cVV (pc' := 27) rfl rfl rfl rfl rfl (sh_T ht) (m_74x (d := d + 4) t hs329.1 hs329.2.1 ht) (fun z331 w332 p333 hs335 hE336 => ?_)
  have hs337 := st_tr hs329 hs335 (subS_c (fun _ _ _ _ _ _ => inS_s (inS_0 (by omega) (by omega) (by omega) (by omega))) (subS_c (fun _ _ _ _ _ _ => inS_s (inS_s (inS_0 (by omega) (by omega) (by omega) (by omega)))) (subS_c (fun _ _ _ _ _ _ => inS_s (inS_s (inS_s (inS_0 (by omega) (by omega) (by omega) (by omega))))) (subS_c (fun _ _ _ _ _ _ => inS_s (inS_s (inS_s (inS_s (inS_0 (by omega) (by omega) (by omega) (by omega)))))) (subS_c (fun _ _ _ _ _ _ => inS_s (inS_s (inS_s (inS_s (inS_s (inS_0 (by omega) (by omega) (by omega) (by omega))))))) (subS_c (fun _ _ _ _ _ _ => inS_s (inS_s (inS_s (inS_s (inS_s (inS_s (inS_0 (by omega) (by omega) (by omega) (by omega)))))))) (subS_c (fun _ _ _ _ _ _ => inS_s (inS_s (inS_s (inS_s (inS_s (inS_s (inS_s (inS_0 (by omega) (by omega) (by omega) (by omega))))))))) subS_n)))))))
  obtain ⟨rfl, hE336⟩ := hE336
  have hcl := hE336
  refine r_ld (pc' := 28) rfl rfl rfl rfl ?_
  refine r_c0 (pc' := 29) rfl rfl ?_
  refine r_pi (pc' := 32) rfl rfl sh_3 rfl rfl hs337 (inS_s (inS_s (inS_s (inS_s (inS_s (inS_s (inS_s (inS_s (inS_0 (by omega) (by omega) (by omega) (by omega)))))))))) (wr_3_0 ⟨by omega, by omega⟩) (fun z338 hq339 hs340 => ?_)
  refine r_ld (pc' := 33) rfl rfl rfl rfl ?_
  refine r_c0 (pc' := 34) rfl rfl ?_
  refine r_pi (pc' := 37) rfl rfl sh_3 rfl rfl hs340 (inS_s (inS_s (inS_s (inS_s (inS_s (inS_s (inS_s (inS_s (inS_s (inS_0 (by omega) (by omega) (by omega) (by omega))))))))))) (wr_3_1 ⟨by omega, by omega⟩) (fun z341 hq342 hs343 => ?_)
  refine r_ld (pc' := 38) rfl rfl rfl rfl ?_
  refine r_c0 (pc' := 39) rfl rfl ?_
  refine r_pi (pc' := 42) rfl rfl sh_3 rfl (fit_b (by omega)) hs343 (inS_s (inS_s (inS_s (inS_s (inS_s (inS_s (inS_s (inS_s (inS_s (inS_s (inS_0 (by omega) (by omega) (by omega) (by omega)))))))))))) (wr_3_5 ⟨by omega, by omega⟩) (fun z344 hq345 hs346 => ?_)
  refine r_ld (pc' := 43) rfl rfl rfl rfl ?_
  refine r_c0 (pc' := 44) rfl rfl ?_
  refine r_pi (pc' := 47) rfl rfl sh_3 rfl rfl hs346 (inS_s (inS_s (inS_s (inS_s (inS_s (inS_s (inS_s (inS_s (inS_s (inS_s (inS_s (inS_0 (by omega) (by omega) (by omega) (by omega))))))))))))) (wr_3_6 ⟨by omega, by omega⟩) (fun z347 hq348 hs349 => ?_)
  have h33 : z347 3 3 = a2 := ((((congrFun (congrFun hq348 _) _).trans (mu_ne (by omega))).trans (((congrFun (congrFun hq345 _) _).trans (mu_ne (by omega))).trans (((congrFun (congrFun hq342 _) _).trans (mu_ne (by omega))).trans (((congrFun (congrFun hq339 _) _).trans (mu_ne (by omega))).trans (hs335.2.2.1 _ _ (notS_c (by omega) (notS_c (by omega) (notS_c (by omega) (notS_c (by omega) (notS_c (by omega) (notS_c (by omega) (notS_c (by omega) notS_n))))))))))))).trans (h330.trans (by omega))
  have hh0 : tc z347 = h := by rw [← hhx]; unfold tc; rw [h33, show z347 2 = z0 2 from funext fun i => (((congrFun (congrFun hq348 _) _).trans (mu_ne (by omega))).trans (((congrFun (congrFun hq345 _) _).trans (mu_ne (by omega))).trans (((congrFun (congrFun hq342 _) _).trans (mu_ne (by omega))).trans (((congrFun (congrFun hq339 _) _).trans (mu_ne (by omega))).trans ((hs335.2.2.1 _ _ (notS_c (by omega) (notS_c (by omega) (notS_c (by omega) (notS_c (by omega) (notS_c (by omega) (notS_c (by omega) (notS_c (by omega) notS_n)))))))).trans ((congrFun (congrFun hq328 _) _).trans (mu_ne (by omega))))))))]
  refine r_ld (pc' := 48) rfl rfl rfl rfl ?_
  have hf350 : z347 3 6 = 0 := ((congrFun (congrFun hq348 _) _).trans mu_eq)
  have hf351 : z347 3 3 = v319 := (((congrFun (congrFun hq348 _) _).trans (mu_ne (by omega))).trans (((congrFun (congrFun hq345 _) _).trans (mu_ne (by omega))).trans (((congrFun (congrFun hq342 _) _).trans (mu_ne (by omega))).trans (((congrFun (congrFun hq339 _) _).trans (mu_ne (by omega))).trans ((hs335.2.2.1 _ _ (notS_c (by omega) (notS_c (by omega) (notS_c (by omega) (notS_c (by omega) (notS_c (by omega) (notS_c (by omega) (notS_c (by omega) notS_n)))))))).trans ((congrFun (congrFun hq328 _) _).trans mu_eq))))))
  refine r_cVV (pc' := 51) rfl rfl rfl rfl rfl sh_3 (m_46x (d := d + 2) t h hs349.1 hs349.2.1 ht (by exact hh0) (by first | omega | assumption | (simp only [hf350, hf351]; assumption))) (fun z353 w354 p355 hs357 hE358 => ?_)
  have hs359 := st_tr hs349 hs357 (subS_c (fun _ _ _ _ _ _ => inS_s (inS_s (inS_s (inS_s (inS_s (inS_s (inS_s (inS_s (inS_s (inS_s (inS_s (inS_0 (by omega) (by omega) (by omega) (by omega))))))))))))) (subS_c (fun _ _ _ _ _ _ => inS_s (inS_s (inS_s (inS_s (inS_s (inS_s (inS_s (inS_s (inS_s (inS_s (inS_s (inS_s (inS_0 (by omega) (by omega) (by omega) (by omega)))))))))))))) (subS_c (fun _ _ _ _ _ _ => inS_s (inS_s (inS_s (inS_s (inS_s (inS_s (inS_s (inS_s (inS_s (inS_s (inS_s (inS_s (inS_s (inS_0 (by omega) (by omega) (by omega) (by omega))))))))))))))) (subS_c (fun _ _ _ _ _ _ => inS_s (inS_s (inS_s (inS_s (inS_s (inS_s (inS_s (inS_s (inS_s (inS_s (inS_s (inS_s (inS_s (inS_s (inS_0 (by omega) (by omega) (by omega) (by omega)))))))))))))))) (subS_c (fun _ _ _ _ _ _ => inS_s (inS_s (inS_s (inS_s (inS_s (inS_s (inS_s (inS_s (inS_s (inS_s (inS_s (inS_s (inS_s (inS_s (inS_s (inS_0 (by omega) (by omega) (by omega) (by omega))))))))))))))))) subS_n)))))
  obtain ⟨rfl, hE358⟩ := hE358
  have hrt := hE358
  refine r_c0 (pc' := 52) rfl rfl ?_
  refine r_st (pc' := 54) (lv' := [(4, _), (0, _), (1, _), (2, _), (3, _)]) rfl rfl rfl rfl ?_
  have hf360 : z353 3 0 = 0 := ((hs357.2.2.1 _ _ (notS_c (by omega) (notS_c (by omega) (notS_c (by omega) (notS_c (by omega) (notS_c (by omega) notS_n)))))).trans (((congrFun (congrFun hq348 _) _).trans (mu_ne (by omega))).trans (((congrFun (congrFun hq345 _) _).trans (mu_ne (by omega))).trans (((congrFun (congrFun hq342 _) _).trans (mu_ne (by omega))).trans ((congrFun (congrFun hq339 _) _).trans mu_eq)))))
  have hf361 : z353 3 1 = (-1) := ((hs357.2.2.1 _ _ (notS_c (by omega) (notS_c (by omega) (notS_c (by omega) (notS_c (by omega) (notS_c (by omega) notS_n)))))).trans (((congrFun (congrFun hq348 _) _).trans (mu_ne (by omega))).trans (((congrFun (congrFun hq345 _) _).trans (mu_ne (by omega))).trans ((congrFun (congrFun hq342 _) _).trans mu_eq))))
  have hb362 := rd_3_8 hs359.1
  have hf363 : z353 3 5 = 0 := ((hs357.2.2.1 _ _ (notS_c (by omega) (notS_c (by omega) (notS_c (by omega) (notS_c (by omega) (notS_c (by omega) notS_n)))))).trans (((congrFun (congrFun hq348 _) _).trans (mu_ne (by omega))).trans ((congrFun (congrFun hq345 _) _).trans mu_eq)))
  have hb364 := rd_3_7 hs359.1
  have hf365 : z353 3 3 = v319 := ((hs357.2.2.1 _ _ (notS_c (by omega) (notS_c (by omega) (notS_c (by omega) (notS_c (by omega) (notS_c (by omega) notS_n)))))).trans (((congrFun (congrFun hq348 _) _).trans (mu_ne (by omega))).trans (((congrFun (congrFun hq345 _) _).trans (mu_ne (by omega))).trans (((congrFun (congrFun hq342 _) _).trans (mu_ne (by omega))).trans (((congrFun (congrFun hq339 _) _).trans (mu_ne (by omega))).trans ((hs335.2.2.1 _ _ (notS_c (by omega) (notS_c (by omega) (notS_c (by omega) (notS_c (by omega) (notS_c (by omega) (notS_c (by omega) (notS_c (by omega) notS_n)))))))).trans ((congrFun (congrFun hq328 _) _).trans mu_eq)))))))
  have hb366 := rd_3_6 hs359.1
  exact w_lv (sub_c rfl (sub_c rfl sub_n)) rfl ((key ((91 * (1600 - 0) + 59 : Int).toNat + 1)).1 0 z353 w354 ⟨by omega, by omega⟩ hs359 (by first | (refine ⟨fun q => absurd q (by rw [hrf.2.2.2.1]; split <;> omega), fun _ => ?_⟩; exact CF_b (a0_b hm (by omega)) (by rw [← f7]; exact hrf.2.2.2.1) (by omega)) | (refine ⟨fun q => ?_, hrr.2⟩; have q9 := hrr.1 q; exact ⟨q9.1, by omega, by omega⟩) | exact ⟨fun _ => ⟨⟨0, ⟨by have q9 := hrt.1; rw [show z347 3 6 = 0 by omega] at q9; exact q9, MC_0 ((((hs357.2.2.1 _ _ (notS_c (by omega) (notS_c (by omega) (notS_c (by omega) (notS_c (by omega) (notS_c (by omega) notS_n)))))).trans (((congrFun (congrFun hq348 _) _).trans (mu_ne (by omega))).trans (((congrFun (congrFun hq345 _) _).trans (mu_ne (by omega))).trans (((congrFun (congrFun hq342 _) _).trans (mu_ne (by omega))).trans ((congrFun (congrFun hq339 _) _).trans (mu_ne (by omega)))))))).trans hcl.1) ((((hs357.2.2.1 _ _ (notS_c (by omega) (notS_c (by omega) (notS_c (by omega) (notS_c (by omega) (notS_c (by omega) notS_n)))))).trans (((congrFun (congrFun hq348 _) _).trans (mu_ne (by omega))).trans (((congrFun (congrFun hq345 _) _).trans (mu_ne (by omega))).trans (((congrFun (congrFun hq342 _) _).trans (mu_ne (by omega))).trans ((congrFun (congrFun hq339 _) _).trans (mu_ne (by omega)))))))).trans hcl.2.1) ((((hs357.2.2.1 _ _ (notS_c (by omega) (notS_c (by omega) (notS_c (by omega) (notS_c (by omega) (notS_c (by omega) notS_n)))))).trans (((congrFun (congrFun hq348 _) _).trans (mu_ne (by omega))).trans (((congrFun (congrFun hq345 _) _).trans (mu_ne (by omega))).trans (((congrFun (congrFun hq342 _) _).trans (mu_ne (by omega))).trans ((congrFun (congrFun hq339 _) _).trans (mu_ne (by omega)))))))).trans hcl.2.2.1) ((((hs357.2.2.1 _ _ (notS_c (by omega) (notS_c (by omega) (notS_c (by omega) (notS_c (by omega) (notS_c (by omega) notS_n)))))).trans (((congrFun (congrFun hq348 _) _).trans (mu_ne (by omega))).trans (((congrFun (congrFun hq345 _) _).trans (mu_ne (by omega))).trans (((congrFun (congrFun hq342 _) _).trans (mu_ne (by omega))).trans ((congrFun (congrFun hq339 _) _).trans (mu_ne (by omega)))))))).trans hcl.2.2.2.1) (by omega) (fun e he => (((hs357.2.2.1 _ _ (notS_c (by omega) (notS_c (by omega) (notS_c (by omega) (notS_c (by omega) (notS_c (by omega) notS_n)))))).trans (((congrFun (congrFun hq348 _) _).trans (mu_ne (by omega))).trans (((congrFun (congrFun hq345 _) _).trans (mu_ne (by omega))).trans (((congrFun (congrFun hq342 _) _).trans (mu_ne (by omega))).trans ((congrFun (congrFun hq339 _) _).trans (mu_ne (by omega)))))))).trans (hcl.2.2.2.2.1 e he)) (fun l e hl he => ((hs357.2.2.2 _ _ (notS_c (by omega) (notS_c (by omega) (notS_c (by omega) (notS_c (by omega) (notS_c (by omega) notS_n))))))).trans (hcl.2.2.2.2.2 l e hl he))⟩, rfl⟩, by omega, by omega⟩, fun q => absurd (by omega) q⟩) (by first | exact (tc_f (fun i => ((hs357.2.2.1 _ _ (notS_c (by omega) (notS_c (by omega) (notS_c (by omega) (notS_c (by omega) (notS_c (by omega) notS_n)))))).trans (((congrFun (congrFun hq348 _) _).trans (mu_ne (by omega))).trans (((congrFun (congrFun hq345 _) _).trans (mu_ne (by omega))).trans (((congrFun (congrFun hq342 _) _).trans (mu_ne (by omega))).trans (((congrFun (congrFun hq339 _) _).trans (mu_ne (by omega))).trans ((hs335.2.2.1 _ _ (notS_c (by omega) (notS_c (by omega) (notS_c (by omega) (notS_c (by omega) (notS_c (by omega) (notS_c (by omega) (notS_c (by omega) notS_n)))))))).trans ((congrFun (congrFun hq328 _) _).trans (mu_ne (by omega)))))))))) (((hs357.2.2.1 _ _ (notS_c (by omega) (notS_c (by omega) (notS_c (by omega) (notS_c (by omega) (notS_c (by omega) notS_n)))))).trans (((congrFun (congrFun hq348 _) _).trans (mu_ne (by omega))).trans (((congrFun (congrFun hq345 _) _).trans (mu_ne (by omega))).trans (((congrFun (congrFun hq342 _) _).trans (mu_ne (by omega))).trans (((congrFun (congrFun hq339 _) _).trans (mu_ne (by omega))).trans ((hs335.2.2.1 _ _ (notS_c (by omega) (notS_c (by omega) (notS_c (by omega) (notS_c (by omega) (notS_c (by omega) (notS_c (by omega) (notS_c (by omega) notS_n)))))))).trans ((congrFun (congrFun hq328 _) _).trans (mu_ne (by omega))))))))))).trans ash | exact (tc_f (fun i => (hs357.2.2.1 _ _ (notS_c (by omega) (notS_c (by omega) (notS_c (by omega) (notS_c (by omega) (notS_c (by omega) notS_n))))))) ((hs357.2.2.1 _ _ (notS_c (by omega) (notS_c (by omega) (notS_c (by omega) (notS_c (by omega) (notS_c (by omega) notS_n)))))))).trans hh0) (by omega))
