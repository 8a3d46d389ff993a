section
/-! methods, printed by wip/tools/vcg.py -/
/-- Acts now -/
abbrev S_2  : mS := []
abbrev E_2  (z0 w0 : mZ) (x y tx it mt tt ct : Option Nat) : Option Nat → mZ → mZ → mP → Prop := fun o z w p => o = some (41 + ((z0 39 2 + z0 39 0) % 61).toNat) ∧ z0 = z ∧ w0 = w ∧ p = (pq x y tx it mt tt ct) ∧ True
theorem m_2 {d : Nat} {z0 w0 : mZ} {x y tx it mt tt ct : Option Nat}  (hz : rz z0) (hw : rw_ w0) : wc (d + 1) 2 [.ref 39] (mk z0 w0 (pq x y tx it mt tt ct)) (poR S_2 z0 w0 (E_2  z0 w0 x y tx it mt tt ct)) := by
  have hst : st_ S_2 z0 w0 z0 w0 := st_rf hz hw
  refine w_m rfl rfl ?_
  refine r_ld (pc' := 1) rfl rfl rfl rfl ?_
  refine r_gr (b := 40) (pc' := 4) rfl rfl sh_39 rfl pp_39_3 ?_
  refine r_ld (pc' := 5) rfl rfl rfl rfl ?_
  have hb3 := rd_39_2 hz
  refine r_gi (pc' := 8) rfl rfl sh_39 rfl rfl ?_
  refine r_ld (pc' := 9) rfl rfl rfl rfl ?_
  have hb4 := rd_39_0 hz
  refine r_gi (pc' := 12) rfl rfl sh_39 rfl rfl ?_
  refine r_add (pc' := 13) rfl rfl ?_
  refine r_cb (pc' := 15) rfl (by decide) rfl ?_
  refine r_rm (pc' := 16) (v := ((z0 39 2) + (z0 39 0)) % 61) rfl rfl ⟨by omega, by omega⟩ ⟨by decide, by decide⟩ (by decide) (tmod_n (by omega)) ?_
  refine r_aa (b := 41 + (((z0 39 2) + (z0 39 0)) % 61).toNat) (pc' := 17) rfl rfl sh_40 (Or.inl rfl) rfl (by omega) (by omega) (pa_40 (by omega)) ?_
  exact r_raa (x := some (41 + (((z0 39 2) + (z0 39 0)) % 61).toNat)) rfl (po_R hst (by exact ⟨rfl, rfl, rfl, rfl, trivial⟩))
/-- Mover roadOf -/
abbrev S_22s  : mS := []
abbrev E_22s (t : Nat) (a1 : Int) (z0 w0 : mZ) (x y tx it tt ct : Option Nat) : Option Nat → mZ → mZ → mP → Prop := fun o z w p => (o = none ∧ z0 = z ∧ w0 = w ∧ p = (pq x y tx it (some t) tt ct) ∧ (a1 < 0 ∨ z0 t 3 ≤ a1)) ∨ (o = some (17 + 2 * a1.toNat) ∧ z0 = z ∧ w0 = w ∧ p = (pq x y tx it (some t) tt ct) ∧ 0 ≤ a1 ∧ a1 < z0 t 3 ∧ z0 t 3 ≤ 8)
theorem m_22s {d : Nat} {z0 w0 : mZ} {x y tx it tt ct : Option Nat} (t : Nat) (a1 : Int) (hz : rz z0) (hw : rw_ w0) (ha1 : (-2147483648) ≤ a1 ∧ a1 ≤ 2147483647) (ht : isT t) : wc (d + 1) 22 [.ref 10, .int (Int32.ofInt a1)] (mk z0 w0 (pq x y tx it (some t) tt ct)) (poR S_22s z0 w0 (E_22s t a1 z0 w0 x y tx it tt ct)) := by
  have hst : st_ S_22s z0 w0 z0 w0 := st_rf hz hw
  have htb : 159 ≤ t ∧ t ≤ 192 := by have := ht; unfold isT at this; omega
  have hzt3 := rd_T_3 ht hz
  refine w_m rfl rfl ?_
  refine r_ld (pc' := 1) rfl rfl rfl rfl ?_
  refine r_gr (b := t) (pc' := 4) rfl rfl sh_10 rfl pp_10_2 ?_
  refine r_nul_f (pc' := 7) rfl rfl ?_
  refine r_ld (pc' := 8) rfl rfl rfl rfl ?_
  refine r_zlt (pc' := 11) rfl rfl ⟨by omega, by omega⟩ (fun hc4 => ?_) (fun hc4 => ?_)
  · skip
    refine r_al (pc' := 32) rfl rfl rfl rfl ?_
    exact r_rao (x := none) rfl (po_R hst (by first | exact Or.inl ⟨rfl, rfl, rfl, rfl, by omega⟩ | exact Or.inr ⟨rfl, rfl, rfl, rfl, by omega, by omega, by omega⟩))
  · skip
    refine r_ld (pc' := 12) rfl rfl rfl rfl ?_
    refine r_ld (pc' := 13) rfl rfl rfl rfl ?_
    refine r_gr (b := t) (pc' := 16) rfl rfl sh_10 rfl pp_10_2 ?_
    have hb5 := rd_T_3 ht hz
    refine r_gi (pc' := 19) rfl rfl (sh_T ht) rfl rfl ?_
    refine r_ige (pc' := 22) rfl rfl ⟨by omega, by omega⟩ ⟨by omega, by omega⟩ (fun hc6 => ?_) (fun hc6 => ?_)
    · skip
      refine r_al (pc' := 32) rfl rfl rfl rfl ?_
      exact r_rao (x := none) rfl (po_R hst (by first | exact Or.inl ⟨rfl, rfl, rfl, rfl, by omega⟩ | exact Or.inr ⟨rfl, rfl, rfl, rfl, by omega, by omega, by omega⟩))
    · skip
      refine r_ld (pc' := 23) rfl rfl rfl rfl ?_
      refine r_gr (b := 16) (pc' := 26) rfl rfl sh_10 rfl pp_10_1 ?_
      refine r_ld (pc' := 27) rfl rfl rfl rfl ?_
      refine r_aa (b := 17 + 2 * a1.toNat) (pc' := 28) rfl rfl sh_16 (Or.inr (Or.inr rfl)) rfl (by omega) (by omega) (pa_16 (by omega)) ?_
      refine r_go rfl ?_
      exact r_rao (x := some (17 + 2 * a1.toNat)) rfl (po_R hst (by first | exact Or.inl ⟨rfl, rfl, rfl, rfl, by omega⟩ | exact Or.inr ⟨rfl, rfl, rfl, rfl, by omega, by omega, by omega⟩))
/-- Mover roadOf -/
abbrev S_22z  : mS := []
abbrev E_22z (a1 : Int) (z0 w0 : mZ) (x y tx it tt ct : Option Nat) : Option Nat → mZ → mZ → mP → Prop := fun o z w p => o = none ∧ z0 = z ∧ w0 = w ∧ p = (pq x y tx it none tt ct) ∧ True
theorem m_22z {d : Nat} {z0 w0 : mZ} {x y tx it tt ct : Option Nat} (a1 : Int) (hz : rz z0) (hw : rw_ w0) (ha1 : (-2147483648) ≤ a1 ∧ a1 ≤ 2147483647) : wc (d + 1) 22 [.ref 10, .int (Int32.ofInt a1)] (mk z0 w0 (pq x y tx it none tt ct)) (poR S_22z z0 w0 (E_22z a1 z0 w0 x y tx it tt ct)) := by
  have hst : st_ S_22z z0 w0 z0 w0 := st_rf hz hw
  refine w_m rfl rfl ?_
  refine r_ld (pc' := 1) rfl rfl rfl rfl ?_
  refine r_gn (pc' := 4) rfl rfl sh_10 rfl pp_10_2 ?_
  refine r_nul_t rfl ?_
  refine r_al (pc' := 32) rfl rfl rfl rfl ?_
  exact r_rao (x := none) rfl (po_R hst (by exact ⟨rfl, rfl, rfl, rfl, trivial⟩))
/-- LoopGround copyRow -/
abbrev S_140b (q : Nat) : mS := [(q, q, 0, 17)]
abbrev E_140b (n : Nat) (q : Nat) (z0 w0 : mZ) (x y tx it mt tt ct : Option Nat) : mZ → mZ → mP → Prop := fun z w p => p = (pq x y tx it mt tt ct) ∧ (∀ e : Nat, e < 18 → w q e = w0 n e)
theorem m_140b {d : Nat} {z0 w0 : mZ} {x y tx it mt tt ct : Option Nat} (n : Nat) (q : Nat) (hz : rz z0) (hw : rw_ w0) (hnq : n ≠ q) (hnb : ∀ e : Nat, e < 18 → 0 ≤ w0 n e ∧ w0 n e ≤ 100000000000000) (hn : lr n) (b15n : 15 ≤ n) (hq : lr q) (wq : wrb q) (b15q : (41 ≤ q ∧ q ≤ 101) ∨ (144 ≤ q ∧ q ≤ 146)) : wc (d + 1) 140 [.ref n, .ref q] (mk z0 w0 (pq x y tx it mt tt ct)) (poV (S_140b q) z0 w0 (E_140b n q z0 w0 x y tx it mt tt ct)) := by
  have hst : st_ (S_140b q) z0 w0 z0 w0 := st_rf hz hw
  have key : ∀ N : Nat, (∀ (x2 : Int) (z w : mZ), 0 ≤ x2 ∧ x2 ≤ 18 → st_ (S_140b q) z0 w0 z w → (∀ e : Nat, (e : Int) < x2 → w q e = w0 n e) → 14 * (18 - x2) + 11 < (N : Int) → wp_ (d) 140 3 none (2, [(0, .ref n), (1, .ref q), (2, .int (Int32.ofInt x2))], [], mk z w (pq x y tx it mt tt ct)) (poV (S_140b q) z0 w0 (E_140b n q z0 w0 x y tx it mt tt ct))) := by
    intro N
    induction N with
    | zero =>
      intro x2 z w
      intros; exfalso; omega
    | succ N ih =>
      have ih0 := ih; clear ih
      intro x2 z w  hx2 hst as1 hM
      have hwn : w n = w0 n := funext fun i => hst.2.2.2 _ _ (fun k => by simp only [S_140b, inS, or_false] at k; omega)
      refine r_ld (pc' := 3) rfl rfl rfl rfl ?_
      refine r_cb (pc' := 5) rfl (by decide) rfl ?_
      refine r_ige (pc' := 8) rfl rfl ⟨by omega, by omega⟩ ⟨by decide, by decide⟩ (fun hc6 => ?_) (fun hc6 => ?_)
      · skip
        exact r_ret rfl (po_V hst ⟨rfl, (by exact fun e he => as1 e (by omega))⟩)
      · skip
        have hnx := hnb x2.toNat (by omega)
        rw [← hwn] at hnx
        refine r_ld (pc' := 9) rfl rfl rfl rfl ?_
        refine r_ld (pc' := 10) rfl rfl rfl rfl ?_
        refine r_ld (pc' := 11) rfl rfl rfl rfl ?_
        refine r_ld (pc' := 12) rfl rfl rfl rfl ?_
        have hb7 := lr_rd hn hst.2.1 (i := x2.toNat) (by omega)
        refine r_la (pc' := 13) rfl rfl hn.1 rfl (by omega) (by omega) rfl ?_
        refine r_ls (pc' := 14) rfl rfl hq.1 rfl (by omega) (by omega) hst (inS_0 (by omega) (by omega) (by omega) (by omega)) (wrb_w wq ⟨by omega, by omega⟩) (fun w8 hq9 hs10 => ?_)
        have hqm := hq9
        refine r_inc (pc' := 17) (lv' := [(0, _), (1, _)]) rfl rfl rfl rfl rfl ?_
        refine r_go rfl ?_
        exact w_lv (sub_c rfl (sub_c rfl (sub_c rfl sub_n))) rfl (ih0 (x2 + 1) z w8 ⟨by omega, by omega⟩ hs10 (by first | (intro e he; exfalso; omega) | (intro e he; rw [hqm]; by_cases c : e = x2.toNat; (subst c; rw [mu_eq, hwn]); (rw [mu_ne (by omega)]; exact as1 e (by omega)))) (by omega))
  refine w_m rfl rfl ?_
  refine r_c0 (pc' := 1) rfl rfl ?_
  refine r_st (pc' := 2) (lv' := [(2, _), (0, _), (1, _)]) rfl rfl rfl rfl ?_
  exact w_lv (sub_c rfl (sub_c rfl (sub_c rfl sub_n))) rfl ((key ((14 * (18 - 0) + 11 : Int).toNat + 1)) 0 z0 w0 ⟨by omega, by omega⟩ hst (by first | (intro e he; exfalso; omega) | (intro e he; rw [hqm]; by_cases c : e = x2.toNat; (subst c; rw [mu_eq, hwn]); (rw [mu_ne (by omega)]; exact as1 e (by omega)))) (by omega))
/-- Acts clearTo -/
abbrev S_4z  : mS := [(39, 39, 0, 0), (39, 39, 1, 1), (41, 101, 0, 17)]
abbrev E_4z  (z0 w0 : mZ) (x y tx it mt tt ct : Option Nat) : mZ → mZ → mP → Prop := fun z w p => p = (pq x y tx it mt tt ct) ∧ (z 39 0 = 0 ∧ z 39 1 = 0 ∧ z 39 2 = z0 39 2 ∧ ∀ e : Nat, e < 18 → w (aR z 0) e = 0)
theorem m_4z {d : Nat} {z0 w0 : mZ} {x y tx it mt tt ct : Option Nat}  (hz : rz z0) (hw : rw_ w0) : wc (d + 2) 4 [.ref 39, .null] (mk z0 w0 (pq x y tx it mt tt ct)) (poV S_4z z0 w0 (E_4z  z0 w0 x y tx it mt tt ct)) := by
  have hst : st_ S_4z z0 w0 z0 w0 := st_rf hz hw
  have hz26 := rd_39_2 hz
  have h390 := rd_39_0 hz
  have h391 := rd_39_1 hz
  have h392 := rd_39_2 hz
  have key : ∀ N : Nat, (∀ (x3 : Int) (z w : mZ), 0 ≤ x3 ∧ x3 ≤ 18 → st_ S_4z z0 w0 z w → (z 39 0 = 0 ∧ z 39 1 = 0 ∧ z 39 2 = z0 39 2) → (∀ e : Nat, (e : Int) < x3 → w (41 + ((z0 39 2 + 0) % 61).toNat) e = 0) → 27 * (18 - x3) + 15 < (N : Int) → wp_ (d + 1) 4 4 none (17, [(1, .null), (2, .ref (41 + ((z0 39 2 + 0) % 61).toNat)), (3, .int (Int32.ofInt x3))], [], mk z w (pq x y tx it mt tt ct)) (poV S_4z z0 w0 (E_4z  z0 w0 x y tx it mt tt ct))) := by
    intro N
    induction N with
    | zero =>
      intro x3 z w
      intros; exfalso; omega
    | succ N ih =>
      have ih0 := ih; clear ih
      intro x3 z w  hx3 hst as1 as2 hM
      refine r_ld (pc' := 18) rfl rfl rfl rfl ?_
      refine r_cb (pc' := 20) rfl (by decide) rfl ?_
      refine r_ige (pc' := 23) rfl rfl ⟨by omega, by omega⟩ ⟨by decide, by decide⟩ (fun hc27 => ?_) (fun hc27 => ?_)
      · skip
        have hb28 := rd_39_0 hst.1
        have hb29 := rd_39_1 hst.1
        have hb30 := rd_39_2 hz
        have hf31 : z 39 2 = z0 39 2 := (hst.2.2.1 _ _ (notS_c (by omega) (notS_c (by omega) (notS_c (by omega) notS_n))))
        exact r_ret rfl (po_V hst ⟨rfl, (by refine ⟨by omega, by omega, by omega, fun e he => ?_⟩; unfold aR; rw [as1.2.2]; exact as2 e (by omega))⟩)
      · skip
        refine r_ld (pc' := 24) rfl rfl rfl rfl ?_
        refine r_ld (pc' := 25) rfl rfl rfl rfl ?_
        refine r_ld (pc' := 26) rfl rfl rfl rfl ?_
        refine r_nn_f (pc' := 29) rfl rfl ?_
        refine r_lc0 (pc' := 30) rfl rfl ?_
        refine r_go rfl ?_
        refine r_ls (pc' := 37) rfl rfl (sh_41 (k := ((z0 39 2 + 0) % 61).toNat) (by omega)) rfl (by omega) (by omega) hst (inS_s (inS_s (inS_0 (by omega) (by omega) (by omega) (by omega)))) (wr_41 (k := ((z0 39 2 + 0) % 61).toNat) (by omega) ⟨by omega, by omega⟩) (fun w32 hq33 hs34 => ?_)
        have hqm := hq33
        refine r_inc (pc' := 40) (lv' := [(1, _), (2, _)]) rfl rfl rfl rfl rfl ?_
        refine r_go rfl ?_
        have hb35 := rd_39_0 hst.1
        have hb36 := rd_39_1 hst.1
        have hb37 := rd_39_2 hz
        have hf38 : z 39 2 = z0 39 2 := (hst.2.2.1 _ _ (notS_c (by omega) (notS_c (by omega) (notS_c (by omega) notS_n))))
        exact w_lv (sub_c rfl (sub_c rfl (sub_c rfl sub_n))) rfl (ih0 (x3 + 1) z w32 ⟨by omega, by omega⟩ hs34 (by first | omega | assumption | (simp only [hf38]; assumption)) (by first | (intro e he; exfalso; omega) | (intro e he; rw [hqm]; by_cases c : e = x3.toNat; (subst c; exact mu_eq); (rw [mu_ne (by omega)]; exact as2 e (by omega)))) (by omega))
  refine w_m rfl rfl ?_
  refine r_ld (pc' := 1) rfl rfl rfl rfl ?_
  refine r_c0 (pc' := 2) rfl rfl ?_
  refine r_pi (pc' := 5) rfl rfl sh_39 rfl rfl hst (inS_0 (by omega) (by omega) (by omega) (by omega)) (wr_39_0 ⟨by omega, by omega⟩) (fun z39 hq40 hs41 => ?_)
  refine r_ld (pc' := 6) rfl rfl rfl rfl ?_
  refine r_c0 (pc' := 7) rfl rfl ?_
  refine r_pi (pc' := 10) rfl rfl sh_39 rfl rfl hs41 (inS_s (inS_0 (by omega) (by omega) (by omega) (by omega))) (wr_39_1 ⟨by omega, by omega⟩) (fun z42 hq43 hs44 => ?_)
  refine r_ld (pc' := 11) rfl rfl rfl rfl ?_
  refine r_cVR (pc' := 14) rfl rfl rfl rfl rfl sh_39 (m_2 (d := d)  hs44.1 hs44.2.1 ) (fun v45 z46 w47 p48 hs50 hE51 => ?_)
  rcases hE51 with ⟨rfl, rfl, rfl, rfl, hrw⟩
  have hb53 := rd_39_2 hz
  have hf54 : z42 39 2 = z0 39 2 := (((congrFun (congrFun hq43 _) _).trans (mu_ne (by omega))).trans ((congrFun (congrFun hq40 _) _).trans (mu_ne (by omega))))
  have hf55 : z42 39 0 = 0 := (((congrFun (congrFun hq43 _) _).trans (mu_ne (by omega))).trans ((congrFun (congrFun hq40 _) _).trans mu_eq))
  rw [hf54, hf55]
  refine r_st (pc' := 15) (lv' := [(2, _), (0, _), (1, _)]) rfl rfl rfl rfl ?_
  refine r_c0 (pc' := 16) rfl rfl ?_
  refine r_st (pc' := 17) (lv' := [(3, _), (2, _), (0, _), (1, _)]) rfl rfl rfl rfl ?_
  have hf56 : z42 39 0 = 0 := (((congrFun (congrFun hq43 _) _).trans (mu_ne (by omega))).trans ((congrFun (congrFun hq40 _) _).trans mu_eq))
  have hf57 : z42 39 1 = 0 := ((congrFun (congrFun hq43 _) _).trans mu_eq)
  have hf58 : z42 39 2 = z0 39 2 := (((congrFun (congrFun hq43 _) _).trans (mu_ne (by omega))).trans ((congrFun (congrFun hq40 _) _).trans (mu_ne (by omega))))
  exact w_lv (sub_c rfl (sub_c rfl (sub_c rfl sub_n))) rfl ((key ((27 * (18 - 0) + 15 : Int).toNat + 1)) 0 z42 w0 ⟨by omega, by omega⟩ hs44 (by first | omega | assumption | (simp only [hf56, hf57, hf58]; assumption)) (by first | (intro e he; exfalso; omega) | (intro e he; rw [hqm]; by_cases c : e = x3.toNat; (subst c; exact mu_eq); (rw [mu_ne (by omega)]; exact as2 e (by omega)))) (by omega))
/-- Acts clearTo -/
abbrev S_4b  : mS := [(39, 39, 0, 0), (39, 39, 1, 1), (41, 101, 0, 17)]
abbrev E_4b (n : Nat) (z0 w0 : mZ) (x y tx it mt tt ct : Option Nat) : mZ → mZ → mP → Prop := fun z w p => p = (pq x y tx it mt tt ct) ∧ (z 39 0 = 0 ∧ z 39 1 = 0 ∧ z 39 2 = z0 39 2 ∧ ∀ e : Nat, e < 18 → w (aR z 0) e = w0 n e)
theorem m_4b {d : Nat} {z0 w0 : mZ} {x y tx it mt tt ct : Option Nat} (n : Nat) (hz : rz z0) (hw : rw_ w0) (hnr : 144 ≤ n ∧ n ≤ 146) (hnb : ∀ e : Nat, e < 18 → 0 ≤ w0 n e ∧ w0 n e ≤ 100000000000000) (hn : lr n) (b15n : 15 ≤ n) : wc (d + 2) 4 [.ref 39, .ref n] (mk z0 w0 (pq x y tx it mt tt ct)) (poV S_4b z0 w0 (E_4b n z0 w0 x y tx it mt tt ct)) := by
  have hst : st_ S_4b z0 w0 z0 w0 := st_rf hz hw
  have hz27 := rd_39_2 hz
  have h390 := rd_39_0 hz
  have h391 := rd_39_1 hz
  have h392 := rd_39_2 hz
  have key : ∀ N : Nat, (∀ (x3 : Int) (z w : mZ), 0 ≤ x3 ∧ x3 ≤ 18 → st_ S_4b z0 w0 z w → (z 39 0 = 0 ∧ z 39 1 = 0 ∧ z 39 2 = z0 39 2) → (∀ e : Nat, (e : Int) < x3 → w (41 + ((z0 39 2 + 0) % 61).toNat) e = w0 n e) → 27 * (18 - x3) + 15 < (N : Int) → wp_ (d + 1) 4 4 none (17, [(1, .ref n), (2, .ref (41 + ((z0 39 2 + 0) % 61).toNat)), (3, .int (Int32.ofInt x3))], [], mk z w (pq x y tx it mt tt ct)) (poV S_4b z0 w0 (E_4b n z0 w0 x y tx it mt tt ct))) := by
    intro N
    induction N with
    | zero =>
      intro x3 z w
      intros; exfalso; omega
    | succ N ih =>
      have ih0 := ih; clear ih
      intro x3 z w  hx3 hst as1 as2 hM
      have hwn : w n = w0 n := funext fun i => hst.2.2.2 _ _ (notS_c (by omega) (notS_c (by omega) (notS_c (by omega) (notS_n))))
      refine r_ld (pc' := 18) rfl rfl rfl rfl ?_
      refine r_cb (pc' := 20) rfl (by decide) rfl ?_
      refine r_ige (pc' := 23) rfl rfl ⟨by omega, by omega⟩ ⟨by decide, by decide⟩ (fun hc28 => ?_) (fun hc28 => ?_)
      · skip
        have hb29 := rd_39_0 hst.1
        have hb30 := rd_39_1 hst.1
        have hb31 := rd_39_2 hz
        have hf32 : z 39 2 = z0 39 2 := (hst.2.2.1 _ _ (notS_c (by omega) (notS_c (by omega) (notS_c (by omega) notS_n))))
        exact r_ret rfl (po_V hst ⟨rfl, (by refine ⟨by omega, by omega, by omega, fun e he => ?_⟩; unfold aR; rw [as1.2.2]; exact as2 e (by omega))⟩)
      · skip
        have hnx := hnb x3.toNat (by omega)
        refine r_ld (pc' := 24) rfl rfl rfl rfl ?_
        refine r_ld (pc' := 25) rfl rfl rfl rfl ?_
        refine r_ld (pc' := 26) rfl rfl rfl rfl ?_
        refine r_nn_t rfl ?_
        refine r_ld (pc' := 34) rfl rfl rfl rfl ?_
        refine r_ld (pc' := 35) rfl rfl rfl rfl ?_
        have hb33 := lr_rd hn hw (i := x3.toNat) (by omega)
        refine r_la (pc' := 36) rfl rfl hn.1 rfl (by omega) (by omega) (hst.2.2.2 _ _ (notS_c (by omega) (notS_c (by omega) (notS_c (by omega) notS_n)))) ?_
        refine r_ls (pc' := 37) rfl rfl (sh_41 (k := ((z0 39 2 + 0) % 61).toNat) (by omega)) rfl (by omega) (by omega) hst (inS_s (inS_s (inS_0 (by omega) (by omega) (by omega) (by omega)))) (wr_41 (k := ((z0 39 2 + 0) % 61).toNat) (by omega) ⟨by omega, by omega⟩) (fun w34 hq35 hs36 => ?_)
        have hqm := hq35
        refine r_inc (pc' := 40) (lv' := [(1, _), (2, _)]) rfl rfl rfl rfl rfl ?_
        refine r_go rfl ?_
        have hb37 := rd_39_0 hst.1
        have hb38 := rd_39_1 hst.1
        have hb39 := rd_39_2 hz
        have hf40 : z 39 2 = z0 39 2 := (hst.2.2.1 _ _ (notS_c (by omega) (notS_c (by omega) (notS_c (by omega) notS_n))))
        exact w_lv (sub_c rfl (sub_c rfl (sub_c rfl sub_n))) rfl (ih0 (x3 + 1) z w34 ⟨by omega, by omega⟩ hs36 (by first | omega | assumption | (simp only [hf40]; assumption)) (by first | (intro e he; exfalso; omega) | (intro e he; rw [hqm]; by_cases c : e = x3.toNat; (subst c; first | exact mu_eq | (rw [mu_eq, hwn])); (rw [mu_ne (by omega)]; exact as2 e (by omega)))) (by omega))
  refine w_m rfl rfl ?_
  refine r_ld (pc' := 1) rfl rfl rfl rfl ?_
  refine r_c0 (pc' := 2) rfl rfl ?_
  refine r_pi (pc' := 5) rfl rfl sh_39 rfl rfl hst (inS_0 (by omega) (by omega) (by omega) (by omega)) (wr_39_0 ⟨by omega, by omega⟩) (fun z41 hq42 hs43 => ?_)
  refine r_ld (pc' := 6) rfl rfl rfl rfl ?_
  refine r_c0 (pc' := 7) rfl rfl ?_
  refine r_pi (pc' := 10) rfl rfl sh_39 rfl rfl hs43 (inS_s (inS_0 (by omega) (by omega) (by omega) (by omega))) (wr_39_1 ⟨by omega, by omega⟩) (fun z44 hq45 hs46 => ?_)
  refine r_ld (pc' := 11) rfl rfl rfl rfl ?_
  refine r_cVR (pc' := 14) rfl rfl rfl rfl rfl sh_39 (m_2 (d := d)  hs46.1 hs46.2.1 ) (fun v47 z48 w49 p50 hs52 hE53 => ?_)
  rcases hE53 with ⟨rfl, rfl, rfl, rfl, hrw⟩
  have hb55 := rd_39_2 hz
  have hf56 : z44 39 2 = z0 39 2 := (((congrFun (congrFun hq45 _) _).trans (mu_ne (by omega))).trans ((congrFun (congrFun hq42 _) _).trans (mu_ne (by omega))))
  have hf57 : z44 39 0 = 0 := (((congrFun (congrFun hq45 _) _).trans (mu_ne (by omega))).trans ((congrFun (congrFun hq42 _) _).trans mu_eq))
  rw [hf56, hf57]
  refine r_st (pc' := 15) (lv' := [(2, _), (0, _), (1, _)]) rfl rfl rfl rfl ?_
  refine r_c0 (pc' := 16) rfl rfl ?_
  refine r_st (pc' := 17) (lv' := [(3, _), (2, _), (0, _), (1, _)]) rfl rfl rfl rfl ?_
  have hf58 : z44 39 0 = 0 := (((congrFun (congrFun hq45 _) _).trans (mu_ne (by omega))).trans ((congrFun (congrFun hq42 _) _).trans mu_eq))
  have hf59 : z44 39 1 = 0 := ((congrFun (congrFun hq45 _) _).trans mu_eq)
  have hf60 : z44 39 2 = z0 39 2 := (((congrFun (congrFun hq45 _) _).trans (mu_ne (by omega))).trans ((congrFun (congrFun hq42 _) _).trans (mu_ne (by omega))))
  exact w_lv (sub_c rfl (sub_c rfl (sub_c rfl sub_n))) rfl ((key ((27 * (18 - 0) + 15 : Int).toNat + 1)) 0 z44 w0 ⟨by omega, by omega⟩ hs46 (by first | omega | assumption | (simp only [hf58, hf59, hf60]; assumption)) (by first | (intro e he; exfalso; omega) | (intro e he; rw [hqm]; by_cases c : e = x3.toNat; (subst c; first | exact mu_eq | (rw [mu_eq, hwn])); (rw [mu_ne (by omega)]; exact as2 e (by omega)))) (by omega))
/-- Mover isFairLine -/
abbrev S_23s  : mS := []
abbrev E_23s (t : Nat) (a1 : Int) (z0 w0 : mZ) (x y tx it tt ct : Option Nat) : Int → mZ → mZ → mP → Prop := fun v z w p => p = (pq x y tx it (some t) tt ct) ∧ z0 = z ∧ w0 = w ∧ 0 ≤ v ∧ v ≤ 1 ∧ ((v = 1 → 0 ≤ a1 ∧ a1 < z0 t 3 ∧ z0 t 3 ≤ 8 ∧ z0 (17 + 2 * a1.toNat) 0 = 2))
theorem m_23s {d : Nat} {z0 w0 : mZ} {x y tx it tt ct : Option Nat} (t : Nat) (a1 : Int) (hz : rz z0) (hw : rw_ w0) (ha1 : (-2147483648) ≤ a1 ∧ a1 ≤ 2147483647) (ht : isT t) : wc (d + 2) 23 [.ref 10, .int (Int32.ofInt a1)] (mk z0 w0 (pq x y tx it (some t) tt ct)) (poI S_23s z0 w0 (E_23s t a1 z0 w0 x y tx it tt ct)) := by
  have hst : st_ S_23s z0 w0 z0 w0 := st_rf hz hw
  have htb : 159 ≤ t ∧ t ≤ 192 := by have := ht; unfold isT at this; omega
  have hz11 := rd_T_3 ht hz
  have hzt3 := rd_T_3 ht hz
  refine w_m rfl rfl ?_
  refine r_ld (pc' := 1) rfl rfl rfl rfl ?_
  refine r_ld (pc' := 2) rfl rfl rfl rfl ?_
  refine r_cVR (pc' := 5) rfl rfl rfl rfl rfl sh_10 (m_22s (d := d) t a1 hst.1 hst.2.1 ⟨by omega, by omega⟩ ht) (fun v12 z13 w14 p15 hs17 hE18 => ?_)
  rcases hE18 with ⟨rfl, rfl, rfl, rfl, hrn⟩ | ⟨rfl, rfl, rfl, rfl, hrx⟩
  · skip
    refine r_st (pc' := 6) (lv' := [(2, _), (0, _), (1, _)]) rfl rfl rfl rfl ?_
    refine r_ld (pc' := 7) rfl rfl rfl rfl ?_
    refine r_nul_t rfl ?_
    refine r_c0 (pc' := 23) rfl rfl ?_
    exact r_rz rfl (by omega) (po_I hst ⟨by decide, by decide⟩ ⟨rfl, rfl, rfl, by omega, by omega, (by first | omega | assumption)⟩)
  · skip
    refine r_st (pc' := 6) (lv' := [(2, _), (0, _), (1, _)]) rfl rfl rfl rfl ?_
    refine r_ld (pc' := 7) rfl rfl rfl rfl ?_
    refine r_nul_f (pc' := 10) rfl rfl ?_
    refine r_ld (pc' := 11) rfl rfl rfl rfl ?_
    have hb20 := rd_R_0 (k := a1.toNat) (by omega) hz
    refine r_gi (pc' := 14) rfl rfl (sh_R (k := a1.toNat) (by omega)) rfl rfl ?_
    refine r_c0 (pc' := 15) rfl rfl ?_
    refine r_ine (pc' := 18) rfl rfl ⟨by omega, by omega⟩ ⟨by decide, by decide⟩ (fun hc21 => ?_) (fun hc21 => ?_)
    · skip
      refine r_c0 (pc' := 23) rfl rfl ?_
      exact r_rz rfl (by omega) (po_I hst ⟨by decide, by decide⟩ ⟨rfl, rfl, rfl, by omega, by omega, (by first | omega | assumption)⟩)
    · skip
      refine r_c0 (pc' := 19) rfl rfl ?_
      refine r_go rfl ?_
      exact r_rz rfl (by omega) (po_I hst ⟨by decide, by decide⟩ ⟨rfl, rfl, rfl, by omega, by omega, (by first | omega | assumption)⟩)
/-- Mover isFairLine -/
abbrev S_23z  : mS := []
abbrev E_23z (a1 : Int) (z0 w0 : mZ) (x y tx it tt ct : Option Nat) : Int → mZ → mZ → mP → Prop := fun v z w p => p = (pq x y tx it none tt ct) ∧ z0 = z ∧ w0 = w ∧ 0 ≤ v ∧ v ≤ 0
theorem m_23z {d : Nat} {z0 w0 : mZ} {x y tx it tt ct : Option Nat} (a1 : Int) (hz : rz z0) (hw : rw_ w0) (ha1 : (-2147483648) ≤ a1 ∧ a1 ≤ 2147483647) : wc (d + 2) 23 [.ref 10, .int (Int32.ofInt a1)] (mk z0 w0 (pq x y tx it none tt ct)) (poI S_23z z0 w0 (E_23z a1 z0 w0 x y tx it tt ct)) := by
  have hst : st_ S_23z z0 w0 z0 w0 := st_rf hz hw
  refine w_m rfl rfl ?_
  refine r_ld (pc' := 1) rfl rfl rfl rfl ?_
  refine r_ld (pc' := 2) rfl rfl rfl rfl ?_
  refine r_cVR (pc' := 5) rfl rfl rfl rfl rfl sh_10 (m_22z (d := d) a1 hst.1 hst.2.1 ⟨by omega, by omega⟩) (fun v9 z10 w11 p12 hs14 hE15 => ?_)
  rcases hE15 with ⟨rfl, rfl, rfl, rfl, hrn⟩
  refine r_st (pc' := 6) (lv' := [(2, _), (0, _), (1, _)]) rfl rfl rfl rfl ?_
  refine r_ld (pc' := 7) rfl rfl rfl rfl ?_
  refine r_nul_t rfl ?_
  refine r_c0 (pc' := 23) rfl rfl ?_
  exact r_rz rfl (by omega) (po_I hst ⟨by decide, by decide⟩ ⟨rfl, rfl, rfl, by omega, by omega⟩)
/-- Mover isFairWord -/
abbrev S_24s  : mS := []
abbrev E_24s (t : Nat) (a1 : Int) (z0 w0 : mZ) (x y tx it tt ct : Option Nat) : Int → mZ → mZ → mP → Prop := fun v z w p => p = (pq x y tx it (some t) tt ct) ∧ z0 = z ∧ w0 = w ∧ 0 ≤ v ∧ v ≤ 1 ∧ ((v = 1 → 0 ≤ a1 ∧ a1 < z0 t 4 ∧ a1 ≤ 5 ∧ FW z0 t a1.toNat))
theorem m_24s {d : Nat} {z0 w0 : mZ} {x y tx it tt ct : Option Nat} (t : Nat) (a1 : Int) (hz : rz z0) (hw : rw_ w0) (ha1 : (-2147483648) ≤ a1 ∧ a1 ≤ 2147483647) (ht : isT t) : wc (d + 3) 24 [.ref 10, .int (Int32.ofInt a1)] (mk z0 w0 (pq x y tx it (some t) tt ct)) (poI S_24s z0 w0 (E_24s t a1 z0 w0 x y tx it tt ct)) := by
  have hst : st_ S_24s z0 w0 z0 w0 := st_rf hz hw
  have htb : 159 ≤ t ∧ t ≤ 192 := by have := ht; unfold isT at this; omega
  have hz18 := rd_T_3 ht hz
  have hz19 := rd_T_4 ht hz
  have hzt4 := rd_T_4 ht hz
  have key : ∀ N : Nat, (∀ (x2 : Int) , 0 ≤ x2 ∧ x2 ≤ 8 → 0 ≤ a1 ∧ a1 ≤ 5 → 1 ≤ z0 t 4 ∧ z0 t 4 ≤ 6 → (∀ i : Nat, (i : Int) < x2 → z0 (t + 20 + a1.toNat) i < z0 t 3 ∧ z0 (17 + 2 * (z0 (t + 20 + a1.toNat) i).toNat) 0 = 2) → (a1 < z0 t 4) → 37 * (8 - x2) + 24 < (N : Int) → wp_ (d + 2) 24 3 (some .boolean) (26, [(0, .ref 10), (1, .int (Int32.ofInt a1)), (2, .int (Int32.ofInt x2))], [], mk z0 w0 (pq x y tx it (some t) tt ct)) (poI S_24s z0 w0 (E_24s t a1 z0 w0 x y tx it tt ct))) := by
    intro N
    induction N with
    | zero =>
      intro x2 
      intros; exfalso; omega
    | succ N ih =>
      have ih0 := ih; clear ih
      intro x2  hx2 hpa1 hz0_0 as1 as2 hM
      refine r_ld (pc' := 27) rfl rfl rfl rfl ?_
      refine r_ld (pc' := 28) rfl rfl rfl rfl ?_
      refine r_gr (b := t) (pc' := 31) rfl rfl sh_10 rfl pp_10_2 ?_
      refine r_gr (b := t + 18) (pc' := 34) rfl rfl (sh_T ht) rfl (pp_T_14 ht) ?_
      refine r_ld (pc' := 35) rfl rfl rfl rfl ?_
      have hb20 := rd_T18 ht hz (i := a1.toNat) (by omega)
      refine r_ia (pc' := 36) rfl rfl (sh_T18 ht) rfl (by omega) (by omega) rfl ?_
      refine r_ige (pc' := 39) rfl rfl ⟨by omega, by omega⟩ ⟨by omega, by omega⟩ (fun hc21 => ?_) (fun hc21 => ?_)
      · skip
        refine r_c0 (pc' := 66) rfl rfl ?_
        exact r_rz rfl (by omega) (po_I hst ⟨by decide, by decide⟩ ⟨rfl, rfl, rfl, by omega, by omega, (by first | (intro h; exfalso; omega) | (intro _; exact ⟨by omega, by omega, by omega, fun i hi => as1 i (by omega)⟩))⟩)
      · skip
        refine r_ld (pc' := 40) rfl rfl rfl rfl ?_
        refine r_ld (pc' := 41) rfl rfl rfl rfl ?_
        refine r_gr (b := t) (pc' := 44) rfl rfl sh_10 rfl pp_10_2 ?_
        refine r_gr (b := t + 19) (pc' := 47) rfl rfl (sh_T ht) rfl (pp_T_15 ht) ?_
        refine r_ld (pc' := 48) rfl rfl rfl rfl ?_
        refine r_aa (b := t + 20 + a1.toNat) (pc' := 49) rfl rfl (sh_T19 ht) (Or.inr (Or.inl rfl)) rfl (by omega) (by omega) (pa_T19 ht (by omega)) ?_
        refine r_ld (pc' := 50) rfl rfl rfl rfl ?_
        have hb22 := rd_T20 ht (k := a1.toNat) (by omega) hz (i := x2.toNat) (by omega)
        refine r_ia (pc' := 51) rfl rfl (sh_T20 ht (by omega)) rfl (by omega) (by omega) rfl ?_
        have hb23 := rd_T_3 ht hz
        have hb24 := rd_R_0 (k := (z0 (t + 20 + a1.toNat) x2.toNat).toNat) (by omega) hz
        refine r_cVI (pc' := 54) rfl rfl rfl rfl rfl sh_10 (m_23s (d := d) t (z0 (t + 20 + a1.toNat) x2.toNat) hst.1 hst.2.1 ⟨by omega, by omega⟩ ht) (fun v25 z26 w27 p28 h29 hs30 hE31 => ?_)
        obtain ⟨rfl, rfl, rfl, hE31⟩ := hE31
        have hfl := hE31.2.2
        refine r_zne (pc' := 57) rfl rfl ⟨by omega, by omega⟩ (fun hc33 => ?_) (fun hc33 => ?_)
        · skip
          refine r_inc (pc' := 62) (lv' := [(0, _), (1, _)]) rfl rfl rfl rfl rfl ?_
          refine r_go rfl ?_
          exact w_lv (sub_c rfl (sub_c rfl (sub_c rfl sub_n))) rfl (ih0 (x2 + 1) ⟨by omega, by omega⟩ ⟨by omega, by omega⟩ ⟨by omega, by omega⟩ (by first | (intro i hi; exfalso; omega) | (intro i hi; by_cases c : i = x2.toNat; (subst c; exact ⟨by have := hfl (by omega); omega, (hfl (by omega)).2.2.2⟩); exact as1 i (by omega))) (by first | omega | assumption) (by omega))
        · skip
          refine r_c0 (pc' := 58) rfl rfl ?_
          exact r_rz rfl (by omega) (po_I hst ⟨by decide, by decide⟩ ⟨rfl, rfl, rfl, by omega, by omega, (by first | (intro h; exfalso; omega) | (intro _; exact ⟨by omega, by omega, by omega, fun i hi => as1 i (by omega)⟩))⟩)
  refine w_m rfl rfl ?_
  refine r_ld (pc' := 1) rfl rfl rfl rfl ?_
  refine r_gr (b := t) (pc' := 4) rfl rfl sh_10 rfl pp_10_2 ?_
  refine r_nul_f (pc' := 7) rfl rfl ?_
  refine r_ld (pc' := 8) rfl rfl rfl rfl ?_
  refine r_zlt (pc' := 11) rfl rfl ⟨by omega, by omega⟩ (fun hc34 => ?_) (fun hc34 => ?_)
  · skip
    refine r_c0 (pc' := 23) rfl rfl ?_
    exact r_rz rfl (by omega) (po_I hst ⟨by decide, by decide⟩ ⟨rfl, rfl, rfl, by omega, by omega, (by first | (intro h; exfalso; omega) | (intro _; exact ⟨by omega, by omega, by omega, fun i hi => as1 i (by omega)⟩))⟩)
  · skip
    refine r_ld (pc' := 12) rfl rfl rfl rfl ?_
    refine r_ld (pc' := 13) rfl rfl rfl rfl ?_
    refine r_gr (b := t) (pc' := 16) rfl rfl sh_10 rfl pp_10_2 ?_
    have hb35 := rd_T_4 ht hz
    refine r_gi (pc' := 19) rfl rfl (sh_T ht) rfl rfl ?_
    refine r_ilt (pc' := 22) rfl rfl ⟨by omega, by omega⟩ ⟨by omega, by omega⟩ (fun hc36 => ?_) (fun hc36 => ?_)
    · skip
      refine r_c0 (pc' := 25) rfl rfl ?_
      refine r_st (pc' := 26) (lv' := [(2, _), (0, _), (1, _)]) rfl rfl rfl rfl ?_
      exact w_lv (sub_c rfl (sub_c rfl (sub_c rfl sub_n))) rfl ((key ((37 * (8 - 0) + 24 : Int).toNat + 1)) 0 ⟨by omega, by omega⟩ ⟨by omega, by omega⟩ ⟨by omega, by omega⟩ (by first | (intro i hi; exfalso; omega) | (intro i hi; by_cases c : i = x2.toNat; (subst c; exact ⟨by have := hfl (by omega); omega, (hfl (by omega)).2.2.2⟩); exact as1 i (by omega))) (by first | omega | assumption) (by omega))
    · skip
      refine r_c0 (pc' := 23) rfl rfl ?_
      exact r_rz rfl (by omega) (po_I hst ⟨by decide, by decide⟩ ⟨rfl, rfl, rfl, by omega, by omega, (by first | (intro h; exfalso; omega) | (intro _; exact ⟨by omega, by omega, by omega, fun i hi => as1 i (by omega)⟩))⟩)
/-- Mover isFairWord -/
abbrev S_24z  : mS := []
abbrev E_24z (a1 : Int) (z0 w0 : mZ) (x y tx it tt ct : Option Nat) : Int → mZ → mZ → mP → Prop := fun v z w p => p = (pq x y tx it none tt ct) ∧ z0 = z ∧ w0 = w ∧ 0 ≤ v ∧ v ≤ 0
theorem m_24z {d : Nat} {z0 w0 : mZ} {x y tx it tt ct : Option Nat} (a1 : Int) (hz : rz z0) (hw : rw_ w0) (ha1 : (-2147483648) ≤ a1 ∧ a1 ≤ 2147483647) : wc (d + 3) 24 [.ref 10, .int (Int32.ofInt a1)] (mk z0 w0 (pq x y tx it none tt ct)) (poI S_24z z0 w0 (E_24z a1 z0 w0 x y tx it tt ct)) := by
  have hst : st_ S_24z z0 w0 z0 w0 := st_rf hz hw
  refine w_m rfl rfl ?_
  refine r_ld (pc' := 1) rfl rfl rfl rfl ?_
  refine r_gn (pc' := 4) rfl rfl sh_10 rfl pp_10_2 ?_
  refine r_nul_t rfl ?_
  refine r_c0 (pc' := 23) rfl rfl ?_
  exact r_rz rfl (by omega) (po_I hst ⟨by decide, by decide⟩ ⟨rfl, rfl, rfl, by omega, by omega⟩)
/-- Mover leastCrossings -/
abbrev S_25 (n : Nat) : mS := [(n, n, 0, 17)]
abbrev E_25 (t : Nat) (n : Nat) (a2 : Int) (z0 w0 : mZ) (x y tx it mt tt ct : Option Nat) : Int → mZ → mZ → mP → Prop := fun v z w p => p = (pq x y tx it mt tt ct) ∧ (-9223372036854775808) ≤ v ∧ v ≤ 9223372036854775807
theorem m_25 {d : Nat} {z0 w0 : mZ} {x y tx it mt tt ct : Option Nat} (t : Nat) (n : Nat) (a2 : Int) (hz : rz z0) (hw : rw_ w0) (ha2 : 0 ≤ a2 ∧ a2 ≤ 7) (ht : isT t) (hnb : ∀ e : Nat, e < 18 → 0 ≤ w0 n e ∧ w0 n e ≤ 100000000000000) (hft : FTt z0 t (w0 n)) (hgr : GRt z0 z0 t a2.toNat) (hkd : z0 (17 + 2 * a2.toNat) 0 = 2) (hn : lr n) (b15n : 15 ≤ n) (wn : wrr n) (mn : 149 ≤ n ∧ n ≤ 157) : wc (d + 4) 25 [.ref 10, .ref n, .int (Int32.ofInt a2)] (mk z0 w0 (pq x y tx it mt tt ct)) (poL (S_25 n) z0 w0 (E_25 t n a2 z0 w0 x y tx it mt tt ct)) := by
  have hst : st_ (S_25 n) z0 w0 z0 w0 := st_rf hz hw
  have htb : 159 ≤ t ∧ t ≤ 192 := by have := ht; unfold isT at this; omega
  obtain ⟨G, hgo, htw1, htw2, ga, gb, ge, gf, gae, gaf, gbe, gbf, gef⟩ := hgr hkd
  obtain ⟨m, hm⟩ : ∃ m, m = (z0 t 0).toNat := ⟨_, rfl⟩
  obtain ⟨T, hT⟩ : ∃ T, T = vT (z0 (t + 1)) := ⟨_, rfl⟩
  rw [← hm, ← hT] at hgo
  refine w_m rfl rfl ?_
  refine r_ld (pc' := 1) rfl rfl rfl rfl ?_
  refine r_gr (b := 16) (pc' := 4) rfl rfl sh_10 rfl pp_10_1 ?_
  refine r_ld (pc' := 5) rfl rfl rfl rfl ?_
  refine r_aa (b := 17 + 2 * a2.toNat) (pc' := 6) rfl rfl sh_16 (Or.inr (Or.inr rfl)) rfl (by omega) (by omega) (pa_16 (by omega)) ?_
  refine r_st (pc' := 7) (lv' := [(3, _), (0, _), (1, _), (2, _)]) rfl rfl rfl rfl ?_
  refine r_ld (pc' := 8) rfl rfl rfl rfl ?_
  refine r_ld (pc' := 9) rfl rfl rfl rfl ?_
  refine r_ld (pc' := 10) rfl rfl rfl rfl ?_
  refine r_c0 (pc' := 11) rfl rfl ?_
  refine r_al (pc' := 12) rfl rfl rfl rfl ?_
  have hb47 := rd_R_1 (k := a2.toNat) (by omega) hz
  refine r_cVI (pc' := 15) rfl rfl rfl rfl rfl sh_10 (m_28n (d := d) m T G n a2.toNat 0 hst.1 hst.2.1 ⟨by omega, by omega⟩ (by first | omega | assumption) (by exact hnb) (by exact hgo) (by exact ⟨fun _ => (hgo.g0 _).mp (by rw [hm, hT]; exact hft), fun h => absurd h (by omega)⟩) hn (by first | omega | assumption) wn (by first | omega | assumption)) (fun v48 z49 w50 p51 h52 hs53 hE54 => ?_)
  have hs55 := st_tr hst hs53 (subS_c (fun _ _ _ _ _ _ => inS_0 (by omega) (by omega) (by omega) (by omega)) subS_n)
  obtain ⟨rfl, hE54⟩ := hE54
  refine r_zne (pc' := 18) rfl rfl ⟨by omega, by omega⟩ (fun hc56 => ?_) (fun hc56 => ?_)
  · skip
    refine r_ld (pc' := 23) rfl rfl rfl rfl ?_
    refine r_ld (pc' := 24) rfl rfl rfl rfl ?_
    have hb57 := rd_R_4 (k := a2.toNat) (by omega) hz
    refine r_gi (pc' := 27) rfl rfl (sh_R (k := a2.toNat) (by omega)) rfl (hs53.2.2.1 _ _ (notS_c (by omega) notS_n)) ?_
    have hb58 := lr_rd hn hs55.2.1 (i := (z0 (17 + 2 * a2.toNat) 4).toNat) (by omega)
    refine r_la (pc' := 28) rfl rfl hn.1 rfl (by omega) (by omega) rfl ?_
    refine r_st (pc' := 30) (lv' := [(4, _), (3, _), (0, _), (1, _), (2, _)]) rfl rfl rfl rfl ?_
    refine r_ld (pc' := 31) rfl rfl rfl rfl ?_
    refine r_ld (pc' := 32) rfl rfl rfl rfl ?_
    have hb59 := rd_R_5 (k := a2.toNat) (by omega) hz
    refine r_gi (pc' := 35) rfl rfl (sh_R (k := a2.toNat) (by omega)) rfl (hs53.2.2.1 _ _ (notS_c (by omega) notS_n)) ?_
    have hb60 := lr_rd hn hs55.2.1 (i := (z0 (17 + 2 * a2.toNat) 5).toNat) (by omega)
    refine r_la (pc' := 36) rfl rfl hn.1 rfl (by omega) (by omega) rfl ?_
    refine r_st (pc' := 38) (lv' := [(6, _), (4, _), (3, _), (0, _), (1, _), (2, _)]) rfl rfl rfl rfl ?_
    refine r_ld (pc' := 40) rfl rfl rfl rfl ?_
    refine r_ld (pc' := 42) rfl rfl rfl rfl ?_
    refine r_lsub (pc' := 43) rfl rfl ?_
    refine w_hxl (fun v61 h62 h63 => ?_)
    refine r_cSL (pc' := 46) rfl rfl rfl rfl rfl (m_260 (d := d + 2) v61 hs55.1 hs55.2.1 ⟨by omega, by omega⟩) (fun v64 z65 w66 p67 h68 hs69 hE70 => ?_)
    obtain ⟨rfl, rfl, rfl, hE70⟩ := hE70
    refine r_ld (pc' := 47) rfl rfl rfl rfl ?_
    refine r_ld (pc' := 48) rfl rfl rfl rfl ?_
    have hb72 := rd_R_2 (k := a2.toNat) (by omega) hz
    refine r_gi (pc' := 51) rfl rfl (sh_R (k := a2.toNat) (by omega)) rfl (hs53.2.2.1 _ _ (notS_c (by omega) notS_n)) ?_
    have hb73 := lr_rd hn hs55.2.1 (i := (z0 (17 + 2 * a2.toNat) 2).toNat) (by omega)
    refine r_la (pc' := 52) rfl rfl hn.1 rfl (by omega) (by omega) rfl ?_
    refine r_ld (pc' := 53) rfl rfl rfl rfl ?_
    refine r_ld (pc' := 54) rfl rfl rfl rfl ?_
    have hb74 := rd_R_3 (k := a2.toNat) (by omega) hz
    refine r_gi (pc' := 57) rfl rfl (sh_R (k := a2.toNat) (by omega)) rfl (hs53.2.2.1 _ _ (notS_c (by omega) notS_n)) ?_
    have hb75 := lr_rd hn hs55.2.1 (i := (z0 (17 + 2 * a2.toNat) 3).toNat) (by omega)
    refine r_la (pc' := 58) rfl rfl hn.1 rfl (by omega) (by omega) rfl ?_
    refine r_ladd (pc' := 59) rfl rfl ?_
    refine w_hxl (fun v76 h77 h78 => ?_)
    refine r_ld (pc' := 61) rfl rfl rfl rfl ?_
    refine r_lsub (pc' := 62) rfl rfl ?_
    refine w_hxl (fun v79 h80 h81 => ?_)
    refine r_ld (pc' := 64) rfl rfl rfl rfl ?_
    refine r_lsub (pc' := 65) rfl rfl ?_
    refine w_hxl (fun v82 h83 h84 => ?_)
    refine r_cSL (pc' := 68) rfl rfl rfl rfl rfl (m_262 (d := d + 2) v64 v82 hs55.1 hs55.2.1 ⟨by omega, by omega⟩ ⟨by omega, by omega⟩) (fun v85 z86 w87 p88 h89 hs90 hE91 => ?_)
    obtain ⟨rfl, rfl, rfl, hE91⟩ := hE91
    exact r_rl rfl (po_L hs55 ⟨by omega, by omega⟩ ⟨rfl, by omega, by omega⟩)
  · skip
    refine r_al (pc' := 21) rfl rfl rfl rfl ?_
    exact r_rl rfl (po_L hs55 ⟨by decide, by decide⟩ ⟨rfl, by omega, by omega⟩)
/-- Mover goThrough -/
abbrev S_26n (n : Nat) : mS := [(n, n, 0, 17)]
abbrev E_26n (t : Nat) (n : Nat) (a2 : Int) (z0 w0 : mZ) (x y tx it tt ct : Option Nat) : Int → mZ → mZ → mP → Prop := fun v z w p => p = (pq x y tx it (some t) tt ct) ∧ 0 ≤ v ∧ v ≤ 1 ∧ ((v = 1 → FTt z0 t (w n) ∧ ∀ e : Nat, e < 18 → 0 ≤ w n e ∧ w n e ≤ 100000000000000))
theorem m_26n {d : Nat} {z0 w0 : mZ} {x y tx it tt ct : Option Nat} (t : Nat) (n : Nat) (a2 : Int) (hz : rz z0) (hw : rw_ w0) (ha2 : 0 ≤ a2 ∧ a2 ≤ 5) (ht : isT t) (hnb : ∀ e : Nat, e < 18 → 0 ≤ w0 n e ∧ w0 n e ≤ 100000000000000) (hft : FTt z0 t (w0 n)) (hga : GA z0 z0 t) (hfw : FW z0 t a2.toNat) (hn : lr n) (b15n : 15 ≤ n) (wn : wrr n) (mn : 149 ≤ n ∧ n ≤ 157) : wc (d + 5) 26 [.ref 10, .ref n, .int (Int32.ofInt a2), .null] (mk z0 w0 (pq x y tx it (some t) tt ct)) (poI (S_26n n) z0 w0 (E_26n t n a2 z0 w0 x y tx it tt ct)) := by
  have hst : st_ (S_26n n) z0 w0 z0 w0 := st_rf hz hw
  have htb : 159 ≤ t ∧ t ≤ 192 := by have := ht; unfold isT at this; omega
  have hzt3 := rd_T_3 ht hz
  have key : ∀ N : Nat, (∀ (x4 : Int) (z w : mZ), 0 ≤ x4 ∧ x4 ≤ 8 → st_ (S_26n n) z0 w0 z w → (FTt z0 t (w n)) → (∀ e : Nat, e < 18 → 0 ≤ w n e ∧ w n e ≤ 100000000000000) → 34 * (8 - x4) + 31 < (N : Int) → wp_ (d + 4) 26 5 (some .boolean) (3, [(0, .ref 10), (1, .ref n), (2, .int (Int32.ofInt a2)), (3, .null), (4, .int (Int32.ofInt x4))], [], mk z w (pq x y tx it (some t) tt ct)) (poI (S_26n n) z0 w0 (E_26n t n a2 z0 w0 x y tx it tt ct))) := by
    intro N
    induction N with
    | zero =>
      intro x4 z w
      intros; exfalso; omega
    | succ N ih =>
      have ih0 := ih; clear ih
      intro x4 z w  hx4 hst as1 as2 hM
      have et0 : z t 0 = z0 t 0 := hst.2.2.1 _ _ (notS_c (by omega) (notS_n))
      have et1 : z (t + 1) = z0 (t + 1) := funext fun i => hst.2.2.1 _ _ (notS_c (by omega) (notS_n))
      refine r_ld (pc' := 5) rfl rfl rfl rfl ?_
      refine r_ld (pc' := 6) rfl rfl rfl rfl ?_
      refine r_gr (b := t) (pc' := 9) rfl rfl sh_10 rfl pp_10_2 ?_
      refine r_gr (b := t + 18) (pc' := 12) rfl rfl (sh_T ht) rfl (pp_T_14 ht) ?_
      refine r_ld (pc' := 13) rfl rfl rfl rfl ?_
      have hb16 := rd_T18 ht hz (i := a2.toNat) (by omega)
      refine r_ia (pc' := 14) rfl rfl (sh_T18 ht) rfl (by omega) (by omega) (hst.2.2.1 _ _ (notS_c (by omega) notS_n)) ?_
      refine r_ige (pc' := 17) rfl rfl ⟨by omega, by omega⟩ ⟨by omega, by omega⟩ (fun hc17 => ?_) (fun hc17 => ?_)
      · skip
        refine r_c0 (pc' := 59) rfl rfl ?_
        exact r_rz rfl (by omega) (po_I hst ⟨by decide, by decide⟩ ⟨rfl, by omega, by omega, (by first | (intro h; exfalso; omega) | exact fun _ => ⟨as1, as2⟩)⟩)
      · skip
        have hfi := hfw x4.toNat (by omega)
        have hfr := rd_T20 ht (k := a2.toNat) (by omega) hz (i := x4.toNat) (by omega)
        refine r_ld (pc' := 18) rfl rfl rfl rfl ?_
        refine r_ld (pc' := 19) rfl rfl rfl rfl ?_
        refine r_ld (pc' := 20) rfl rfl rfl rfl ?_
        refine r_gr (b := t) (pc' := 23) rfl rfl sh_10 rfl pp_10_2 ?_
        refine r_gr (b := t + 19) (pc' := 26) rfl rfl (sh_T ht) rfl (pp_T_15 ht) ?_
        refine r_ld (pc' := 27) rfl rfl rfl rfl ?_
        refine r_aa (b := t + 20 + a2.toNat) (pc' := 28) rfl rfl (sh_T19 ht) (Or.inr (Or.inl rfl)) rfl (by omega) (by omega) (pa_T19 ht (by omega)) ?_
        refine r_ld (pc' := 30) rfl rfl rfl rfl ?_
        have hb18 := rd_T20 ht (k := a2.toNat) (by omega) hz (i := x4.toNat) (by omega)
        refine r_ia (pc' := 31) rfl rfl (sh_T20 ht (by omega)) rfl (by omega) (by omega) (hst.2.2.1 _ _ (notS_c (by omega) notS_n)) ?_
        refine r_ld (pc' := 32) rfl rfl rfl rfl ?_
        refine r_gr (b := t) (pc' := 35) rfl rfl sh_10 rfl pp_10_2 ?_
        refine r_gr (b := t + 26) (pc' := 38) rfl rfl (sh_T ht) rfl (pp_T_16 ht) ?_
        refine r_ld (pc' := 39) rfl rfl rfl rfl ?_
        refine r_aa (b := t + 27 + a2.toNat) (pc' := 40) rfl rfl (sh_T26 ht) (Or.inr (Or.inl rfl)) rfl (by omega) (by omega) (pa_T26 ht (by omega)) ?_
        refine r_ld (pc' := 42) rfl rfl rfl rfl ?_
        have hb19 := rd_T27 ht (k := a2.toNat) (by omega) hz (i := x4.toNat) (by omega)
        refine r_ia (pc' := 43) rfl rfl (sh_T27 ht (by omega)) rfl (by omega) (by omega) (hst.2.2.1 _ _ (notS_c (by omega) notS_n)) ?_
        refine r_ld (pc' := 44) rfl rfl rfl rfl ?_
        have hb20 := rd_R_0 (k := (z0 (t + 20 + a2.toNat) x4.toNat).toNat) (by omega) hz
        have hf21 : z (17 + 2 * (z0 (t + 20 + a2.toNat) x4.toNat).toNat) 0 = z0 (17 + 2 * (z0 (t + 20 + a2.toNat) x4.toNat).toNat) 0 := (hst.2.2.1 _ _ (notS_c (by omega) notS_n))
        refine r_cVI (pc' := 47) rfl rfl rfl rfl rfl sh_10 (m_27n (d := d) t n (z0 (t + 20 + a2.toNat) x4.toNat) (z0 (t + 27 + a2.toNat) x4.toNat) hst.1 hst.2.1 ⟨by omega, by omega⟩ ⟨by omega, by omega⟩ ht (by exact as2) (by exact FTt_fr et0 et1 as1) (by exact GRt_cg (hga _ (by omega)) et0.symm et1.symm (fun i _ => hst.2.2.1 _ _ (notS_c (by omega) (notS_n))) (funext fun i => hst.2.2.1 _ _ (notS_c (by omega) (notS_n)))) (by exact (hst.2.2.1 _ _ (notS_c (by omega) (notS_n))).trans hfi.2) hn (by first | omega | assumption | (simp only [hf21]; assumption)) wn (by first | omega | assumption | (simp only [hf21]; assumption))) (fun v22 z23 w24 p25 h26 hs27 hE28 => ?_)
        have hs29 := st_tr hst hs27 (subS_c (fun _ _ _ _ _ _ => inS_0 (by omega) (by omega) (by omega) (by omega)) subS_n)
        obtain ⟨rfl, hE28⟩ := hE28
        have htw := hE28.2.2
        refine r_zne (pc' := 50) rfl rfl ⟨by omega, by omega⟩ (fun hc30 => ?_) (fun hc30 => ?_)
        · skip
          refine r_inc (pc' := 55) (lv' := [(0, _), (1, _), (2, _), (3, _)]) rfl rfl rfl rfl rfl ?_
          refine r_go rfl ?_
          exact w_lv (sub_c rfl (sub_c rfl (sub_c rfl (sub_c rfl (sub_c rfl sub_n))))) rfl (ih0 (x4 + 1) z23 w24 ⟨by omega, by omega⟩ hs29 (by first | exact hft | exact FTt_fr et0.symm et1.symm (htw (by omega)).1) (by first | exact hnb | exact (htw (by omega)).2) (by omega))
        · skip
          refine r_c0 (pc' := 51) rfl rfl ?_
          exact r_rz rfl (by omega) (po_I hs29 ⟨by decide, by decide⟩ ⟨rfl, by omega, by omega, (by first | (intro h; exfalso; omega) | exact fun _ => ⟨as1, as2⟩)⟩)
  refine w_m rfl rfl ?_
  refine r_c0 (pc' := 1) rfl rfl ?_
  refine r_st (pc' := 3) (lv' := [(4, _), (0, _), (1, _), (2, _), (3, _)]) rfl rfl rfl rfl ?_
  exact w_lv (sub_c rfl (sub_c rfl (sub_c rfl (sub_c rfl (sub_c rfl sub_n))))) rfl ((key ((34 * (8 - 0) + 31 : Int).toNat + 1)) 0 z0 w0 ⟨by omega, by omega⟩ hst (by first | exact hft | exact FTt_fr et0.symm et1.symm (htw (by omega)).1) (by first | exact hnb | exact (htw (by omega)).2) (by omega))
/-- Mover goThrough -/
abbrev S_26t (n : Nat) : mS := [(n, n, 0, 17), (104, 121, 0, 17)]
abbrev E_26t (t : Nat) (n : Nat) (a2 : Int) (z0 w0 : mZ) (x y tx it tt ct : Option Nat) : Int → mZ → mZ → mP → Prop := fun v z w p => p = (pq x y tx it (some t) tt ct) ∧ 0 ≤ v ∧ v ≤ 1 ∧ ((v = 1 → FTt z0 t (w n) ∧ ∀ e : Nat, e < 18 → 0 ≤ w n e ∧ w n e ≤ 100000000000000))
theorem m_26t {d : Nat} {z0 w0 : mZ} {x y tx it tt ct : Option Nat} (t : Nat) (n : Nat) (a2 : Int) (hz : rz z0) (hw : rw_ w0) (ha2 : 0 ≤ a2 ∧ a2 ≤ 5) (ht : isT t) (hnb : ∀ e : Nat, e < 18 → 0 ≤ w0 n e ∧ w0 n e ≤ 100000000000000) (hft : FTt z0 t (w0 n)) (hga : GA z0 z0 t) (hfw : FW z0 t a2.toNat) (hn : lr n) (b15n : 15 ≤ n) (wn : wrr n) (mn : 149 ≤ n ∧ n ≤ 157) : wc (d + 5) 26 [.ref 10, .ref n, .int (Int32.ofInt a2), .ref 102] (mk z0 w0 (pq x y tx it (some t) tt ct)) (poI (S_26t n) z0 w0 (E_26t t n a2 z0 w0 x y tx it tt ct)) := by
  have hst : st_ (S_26t n) z0 w0 z0 w0 := st_rf hz hw
  have htb : 159 ≤ t ∧ t ≤ 192 := by have := ht; unfold isT at this; omega
  have hzt3 := rd_T_3 ht hz
  have key : ∀ N : Nat, (∀ (x4 : Int) (z w : mZ), 0 ≤ x4 ∧ x4 ≤ 8 → st_ (S_26t n) z0 w0 z w → (FTt z0 t (w n)) → (∀ e : Nat, e < 18 → 0 ≤ w n e ∧ w n e ≤ 100000000000000) → 34 * (8 - x4) + 31 < (N : Int) → wp_ (d + 4) 26 5 (some .boolean) (3, [(0, .ref 10), (1, .ref n), (2, .int (Int32.ofInt a2)), (3, .ref 102), (4, .int (Int32.ofInt x4))], [], mk z w (pq x y tx it (some t) tt ct)) (poI (S_26t n) z0 w0 (E_26t t n a2 z0 w0 x y tx it tt ct))) := by
    intro N
    induction N with
    | zero =>
      intro x4 z w
      intros; exfalso; omega
    | succ N ih =>
      have ih0 := ih; clear ih
      intro x4 z w  hx4 hst as1 as2 hM
      have et0 : z t 0 = z0 t 0 := hst.2.2.1 _ _ (notS_c (by omega) (notS_c (by omega) (notS_n)))
      have et1 : z (t + 1) = z0 (t + 1) := funext fun i => hst.2.2.1 _ _ (notS_c (by omega) (notS_c (by omega) (notS_n)))
      refine r_ld (pc' := 5) rfl rfl rfl rfl ?_
      refine r_ld (pc' := 6) rfl rfl rfl rfl ?_
      refine r_gr (b := t) (pc' := 9) rfl rfl sh_10 rfl pp_10_2 ?_
      refine r_gr (b := t + 18) (pc' := 12) rfl rfl (sh_T ht) rfl (pp_T_14 ht) ?_
      refine r_ld (pc' := 13) rfl rfl rfl rfl ?_
      have hb16 := rd_T18 ht hz (i := a2.toNat) (by omega)
      refine r_ia (pc' := 14) rfl rfl (sh_T18 ht) rfl (by omega) (by omega) (hst.2.2.1 _ _ (notS_c (by omega) (notS_c (by omega) notS_n))) ?_
      refine r_ige (pc' := 17) rfl rfl ⟨by omega, by omega⟩ ⟨by omega, by omega⟩ (fun hc17 => ?_) (fun hc17 => ?_)
      · skip
        refine r_c0 (pc' := 59) rfl rfl ?_
        exact r_rz rfl (by omega) (po_I hst ⟨by decide, by decide⟩ ⟨rfl, by omega, by omega, (by first | (intro h; exfalso; omega) | exact fun _ => ⟨as1, as2⟩)⟩)
      · skip
        have hfi := hfw x4.toNat (by omega)
        have hfr := rd_T20 ht (k := a2.toNat) (by omega) hz (i := x4.toNat) (by omega)
        refine r_ld (pc' := 18) rfl rfl rfl rfl ?_
        refine r_ld (pc' := 19) rfl rfl rfl rfl ?_
        refine r_ld (pc' := 20) rfl rfl rfl rfl ?_
        refine r_gr (b := t) (pc' := 23) rfl rfl sh_10 rfl pp_10_2 ?_
        refine r_gr (b := t + 19) (pc' := 26) rfl rfl (sh_T ht) rfl (pp_T_15 ht) ?_
        refine r_ld (pc' := 27) rfl rfl rfl rfl ?_
        refine r_aa (b := t + 20 + a2.toNat) (pc' := 28) rfl rfl (sh_T19 ht) (Or.inr (Or.inl rfl)) rfl (by omega) (by omega) (pa_T19 ht (by omega)) ?_
        refine r_ld (pc' := 30) rfl rfl rfl rfl ?_
        have hb18 := rd_T20 ht (k := a2.toNat) (by omega) hz (i := x4.toNat) (by omega)
        refine r_ia (pc' := 31) rfl rfl (sh_T20 ht (by omega)) rfl (by omega) (by omega) (hst.2.2.1 _ _ (notS_c (by omega) (notS_c (by omega) notS_n))) ?_
        refine r_ld (pc' := 32) rfl rfl rfl rfl ?_
        refine r_gr (b := t) (pc' := 35) rfl rfl sh_10 rfl pp_10_2 ?_
        refine r_gr (b := t + 26) (pc' := 38) rfl rfl (sh_T ht) rfl (pp_T_16 ht) ?_
        refine r_ld (pc' := 39) rfl rfl rfl rfl ?_
        refine r_aa (b := t + 27 + a2.toNat) (pc' := 40) rfl rfl (sh_T26 ht) (Or.inr (Or.inl rfl)) rfl (by omega) (by omega) (pa_T26 ht (by omega)) ?_
        refine r_ld (pc' := 42) rfl rfl rfl rfl ?_
        have hb19 := rd_T27 ht (k := a2.toNat) (by omega) hz (i := x4.toNat) (by omega)
        refine r_ia (pc' := 43) rfl rfl (sh_T27 ht (by omega)) rfl (by omega) (by omega) (hst.2.2.1 _ _ (notS_c (by omega) (notS_c (by omega) notS_n))) ?_
        refine r_ld (pc' := 44) rfl rfl rfl rfl ?_
        have hb20 := rd_R_0 (k := (z0 (t + 20 + a2.toNat) x4.toNat).toNat) (by omega) hz
        have hf21 : z (17 + 2 * (z0 (t + 20 + a2.toNat) x4.toNat).toNat) 0 = z0 (17 + 2 * (z0 (t + 20 + a2.toNat) x4.toNat).toNat) 0 := (hst.2.2.1 _ _ (notS_c (by omega) (notS_c (by omega) notS_n)))
        refine r_cVI (pc' := 47) rfl rfl rfl rfl rfl sh_10 (m_27t (d := d) t n (z0 (t + 20 + a2.toNat) x4.toNat) (z0 (t + 27 + a2.toNat) x4.toNat) hst.1 hst.2.1 ⟨by omega, by omega⟩ ⟨by omega, by omega⟩ ht (by exact as2) (by exact FTt_fr et0 et1 as1) (by exact GRt_cg (hga _ (by omega)) et0.symm et1.symm (fun i _ => hst.2.2.1 _ _ (notS_c (by omega) (notS_c (by omega) (notS_n)))) (funext fun i => hst.2.2.1 _ _ (notS_c (by omega) (notS_c (by omega) (notS_n))))) (by exact (hst.2.2.1 _ _ (notS_c (by omega) (notS_c (by omega) (notS_n)))).trans hfi.2) hn (by first | omega | assumption | (simp only [hf21]; assumption)) wn (by first | omega | assumption | (simp only [hf21]; assumption))) (fun v22 z23 w24 p25 h26 hs27 hE28 => ?_)
        have hs29 := st_tr hst hs27 (subS_c (fun _ _ _ _ _ _ => inS_0 (by omega) (by omega) (by omega) (by omega)) (subS_c (fun _ _ _ _ _ _ => inS_s (inS_0 (by omega) (by omega) (by omega) (by omega))) subS_n))
        obtain ⟨rfl, hE28⟩ := hE28
        have htw := hE28.2.2
        refine r_zne (pc' := 50) rfl rfl ⟨by omega, by omega⟩ (fun hc30 => ?_) (fun hc30 => ?_)
        · skip
          refine r_inc (pc' := 55) (lv' := [(0, _), (1, _), (2, _), (3, _)]) rfl rfl rfl rfl rfl ?_
          refine r_go rfl ?_
          exact w_lv (sub_c rfl (sub_c rfl (sub_c rfl (sub_c rfl (sub_c rfl sub_n))))) rfl (ih0 (x4 + 1) z23 w24 ⟨by omega, by omega⟩ hs29 (by first | exact hft | exact FTt_fr et0.symm et1.symm (htw (by omega)).1) (by first | exact hnb | exact (htw (by omega)).2) (by omega))
        · skip
          refine r_c0 (pc' := 51) rfl rfl ?_
          exact r_rz rfl (by omega) (po_I hs29 ⟨by decide, by decide⟩ ⟨rfl, by omega, by omega, (by first | (intro h; exfalso; omega) | exact fun _ => ⟨as1, as2⟩)⟩)
  refine w_m rfl rfl ?_
  refine r_c0 (pc' := 1) rfl rfl ?_
  refine r_st (pc' := 3) (lv' := [(4, _), (0, _), (1, _), (2, _), (3, _)]) rfl rfl rfl rfl ?_
  exact w_lv (sub_c rfl (sub_c rfl (sub_c rfl (sub_c rfl (sub_c rfl sub_n))))) rfl ((key ((34 * (8 - 0) + 31 : Int).toNat + 1)) 0 z0 w0 ⟨by omega, by omega⟩ hst (by first | exact hft | exact FTt_fr et0.symm et1.symm (htw (by omega)).1) (by first | exact hnb | exact (htw (by omega)).2) (by omega))
end
section
/-! calls of the class -/
theorem FW_f {S : mS} {z w z' w' : mZ} {t a : Nat} (ht : isT t) (hz : rz z) (h : st_ S z w z' w') (ha : a ≤ 5) (h3 : ¬ inS S t 3) (f18 : ∀ i, ¬ inS S (t + 18) i) (f20 : ∀ b, t + 20 ≤ b → b ≤ t + 25 → ∀ i, ¬ inS S b i) (r : ∀ b, 17 ≤ b → b ≤ 32 → ∀ i, ¬ inS S b i) (k : FW z t a) : FW z' t a := by
  intro i hi
  rw [h.2.2.1 _ _ (f18 a)] at hi
  have q18 := rd_T18 ht hz (i := a) (by omega)
  have q := rd_T20 ht (k := a) (by omega) hz (i := i) (by omega)
  rw [h.2.2.1 _ _ (f20 (t + 20 + a) (by omega) (by omega) i), h.2.2.1 _ _ h3, h.2.2.1 _ _ (r (17 + 2 * (z (t + 20 + a) i).toNat) (by omega) (by omega) 0)]
  exact k i hi
abbrev NBr (w : mZ) (n : Nat) : Prop := ∀ e : Nat, e < 18 → 0 ≤ w n e ∧ w n e ≤ 100000000000000
theorem NB_c {w w' : mZ} {n q : Nat} (h : ∀ e : Nat, e < 18 → w' q e = w n e) (k : NBr w n) : NBr w' q := fun e he => by rw [h e he]; exact k e he
theorem NB_T {w : mZ} {t l : Nat} (ht : isT t) (hl : l < 8) (hw : rw_ w) : NBr w (t + 8 + l) := fun e he => by have := rd_T8 ht hl hw (i := e) he; exact ⟨by omega, by omega⟩
theorem NB_A {w : mZ} {k : Nat} (hk : k < 61) (hw : rw_ w) : NBr w (41 + k) := fun e he => by have := rd_41 hk hw (i := e) he; exact ⟨by omega, by omega⟩
theorem CV_a {S : mS} {z w z' w' : mZ} {t : Nat} (ht : isT t) (hz : rz z) (h : st_ S z w z' w') (s7 : ¬ inS S 3 7) (s9 : ¬ inS S 3 9) (h0 : ¬ inS S t 0) (h1 : ¬ inS S t 1) (h3 : ¬ inS S t 3) (f1 : ∀ i, ¬ inS S (t + 1) i) (f2 : ∀ i, ¬ inS S (t + 2) i) (f5 : ∀ i, ¬ inS S (t + 5) i) (f8 : ∀ a, t + 8 ≤ a → a ≤ t + 15 → ∀ i, ¬ inS S a i)
    (b1 : ∀ a, 144 ≤ a → a ≤ 147 → ∀ i, ¬ inS S a i) (k : CV z w t) (ak : AK z' w' t) : CV z' w' t := by
  obtain ⟨k1, k2, k3, k4, k5⟩ := k
  have e0 := h.2.2.1 _ _ h0; have e3 := h.2.2.1 _ _ h3
  have g1 : z' (t + 1) = z (t + 1) := funext fun i => h.2.2.1 _ _ (f1 i)
  have ft : ∀ n, FTt z t n → FTt z' t n := fun n q => FTt_fr e0 g1 q
  have t3 := rd_T_3 ht hz
  refine ⟨WTt_f h h0 h1 f1 f2 f5 k1, fun l hl => ?_, ak, fun b hb q => ?_, ?_⟩
  · rw [show w' (t + 8 + l) = w (t + 8 + l) from funext fun i => h.2.2.2 _ _ (f8 _ (by omega) (by omega) i)]
    exact ft _ (k2 l (by omega))
  · rw [h.2.2.1 _ _ (b1 147 (by omega) (by omega) b)] at q
    rw [show w' (144 + b) = w (144 + b) from funext fun i => h.2.2.2 _ _ (b1 _ (by omega) (by omega) i)]
    exact ft _ (k4 b hb q)
  · unfold KNz
    rw [h.2.2.1 _ _ s7, h.2.2.1 _ _ s9]; exact k5
end
