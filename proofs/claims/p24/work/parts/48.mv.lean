/-! methods, printed by wip/tools/vcg.py -/
/-- Mover change -/
abbrev S_29n (n : Nat) : mS := [(n, n, 0, 17)]
abbrev E_29n (n : Nat) (a2 : Int) (a3 : Int) (a4 : Int) (a5 : Int) (a6 : Int) (z0 w0 : mZ) (x y tx it mt tt ct : Option Nat) : Int → mZ → mZ → mP → Prop := fun v z w p => p = (pq x y tx it mt tt ct) ∧ 0 ≤ v ∧ v ≤ 1 ∧ (w n = fl a2.toNat a3.toNat a5.toNat a4.toNat a6.toNat (w0 n) ∧ (v = 1 → w n a2.toNat ≤ 100000000000000))
theorem m_29n {d : Nat} {z0 w0 : mZ} {x y tx it mt tt ct : Option Nat} (n : Nat) (a2 : Int) (a3 : Int) (a4 : Int) (a5 : Int) (a6 : Int) (hz : rz z0) (hw : rw_ w0) (ha2 : 0 ≤ a2 ∧ a2 ≤ 17) (ha3 : 0 ≤ a3 ∧ a3 ≤ 17) (ha4 : 0 ≤ a4 ∧ a4 ≤ 17) (ha5 : 0 ≤ a5 ∧ a5 ≤ 17) (ha6 : 0 ≤ a6 ∧ a6 ≤ 17) (hnb : ∀ e : Nat, e < 18 → 0 ≤ w0 n e ∧ w0 n e ≤ 100000000000000) (hn : lr n) (b15n : 15 ≤ n) (wn : wrr n) (mn : 149 ≤ n ∧ n ≤ 157) : wc (d + 2) 29 [.ref 10, .ref n, .int (Int32.ofInt a2), .int (Int32.ofInt a3), .int (Int32.ofInt a4), .int (Int32.ofInt a5), .int (Int32.ofInt a6), .null] (mk z0 w0 (pq x y tx it mt tt ct)) (poI (S_29n n) z0 w0 (E_29n n a2 a3 a4 a5 a6 z0 w0 x y tx it mt tt ct)) := by
  have hst : st_ (S_29n n) z0 w0 z0 w0 := st_rf hz hw
  have hn2 := hnb a2.toNat (by omega)
  have hn3 := hnb a3.toNat (by omega)
  have hn4 := hnb a4.toNat (by omega)
  have hn5 := hnb a5.toNat (by omega)
  have hn6 := hnb a6.toNat (by omega)
  have key : ∀ N : Nat, (∀ (z w : mZ), st_ (S_29n n) z0 w0 z w → (w n = fl a2.toNat a3.toNat a5.toNat a4.toNat a6.toNat (w0 n)) → 9 < (N : Int) → wp_ (d + 1) 29 12 (some .boolean) (75, [(1, .ref n), (2, .int (Int32.ofInt a2))], [], mk z w (pq x y tx it mt tt ct)) (poI (S_29n n) z0 w0 (E_29n n a2 a3 a4 a5 a6 z0 w0 x y tx it mt tt ct))) := by
    intro N
    induction N with
    | zero =>
      intro  z w
      intros; exfalso; omega
    | succ N ih =>
      have ih0 := ih; clear ih
      intro  z w  hst as1 hM
      refine r_ld (pc' := 76) rfl rfl rfl rfl ?_
      refine r_ld (pc' := 77) rfl rfl rfl rfl ?_
      have hb28 := lr_rd hn hst.2.1 (i := a2.toNat) (by omega)
      refine r_la (pc' := 78) rfl rfl hn.1 rfl (by omega) (by omega) rfl ?_
      refine r_al (pc' := 81) rfl rfl rfl rfl ?_
      refine r_lgt (pc' := 85) rfl rfl rfl ⟨by omega, by omega⟩ ⟨by decide, by decide⟩ (fun hc29 => ?_) (fun hc29 => ?_)
      · skip
        refine r_c0 (pc' := 90) rfl rfl ?_
        exact r_rz rfl (by omega) (po_I hst ⟨by decide, by decide⟩ ⟨rfl, by omega, by omega, (by exact ⟨as1, fun h => by omega⟩)⟩)
      · skip
        refine r_c0 (pc' := 86) rfl rfl ?_
        refine r_go rfl ?_
        exact r_rz rfl (by omega) (po_I hst ⟨by decide, by decide⟩ ⟨rfl, by omega, by omega, (by exact ⟨as1, fun h => by omega⟩)⟩)
  refine w_m rfl rfl ?_
  refine r_ld (pc' := 1) rfl rfl rfl rfl ?_
  refine r_ld (pc' := 2) rfl rfl rfl rfl ?_
  have hb30 := lr_rd hn hw (i := a3.toNat) (by omega)
  refine r_la (pc' := 3) rfl rfl hn.1 rfl (by omega) (by omega) rfl ?_
  refine r_ld (pc' := 4) rfl rfl rfl rfl ?_
  refine r_ld (pc' := 6) rfl rfl rfl rfl ?_
  have hb31 := lr_rd hn hw (i := a4.toNat) (by omega)
  refine r_la (pc' := 7) rfl rfl hn.1 rfl (by omega) (by omega) rfl ?_
  refine r_ladd (pc' := 8) rfl rfl ?_
  refine w_hxl (fun v32 h33 h34 => ?_)
  refine r_st (pc' := 10) (lv' := [(8, _), (0, _), (1, _), (2, _), (3, _), (4, _), (5, _), (6, _), (7, _)]) rfl rfl rfl rfl ?_
  refine r_ld (pc' := 11) rfl rfl rfl rfl ?_
  refine r_ld (pc' := 13) rfl rfl rfl rfl ?_
  have hb35 := lr_rd hn hw (i := a5.toNat) (by omega)
  refine r_la (pc' := 14) rfl rfl hn.1 rfl (by omega) (by omega) rfl ?_
  refine r_ld (pc' := 15) rfl rfl rfl rfl ?_
  refine r_ld (pc' := 17) rfl rfl rfl rfl ?_
  have hb36 := lr_rd hn hw (i := a6.toNat) (by omega)
  refine r_la (pc' := 18) rfl rfl hn.1 rfl (by omega) (by omega) rfl ?_
  refine r_ladd (pc' := 19) rfl rfl ?_
  refine w_hxl (fun v37 h38 h39 => ?_)
  refine r_st (pc' := 21) (lv' := [(10, _), (8, _), (0, _), (1, _), (2, _), (3, _), (4, _), (5, _), (6, _), (7, _)]) rfl rfl rfl rfl ?_
  refine r_ld (pc' := 22) rfl rfl rfl rfl ?_
  refine r_ld (pc' := 23) rfl rfl rfl rfl ?_
  refine r_ld (pc' := 25) rfl rfl rfl rfl ?_
  refine r_ld (pc' := 27) rfl rfl rfl rfl ?_
  refine r_cSL (pc' := 30) rfl rfl rfl rfl rfl (m_262 (d := d) v32 v37 hst.1 hst.2.1 ⟨by omega, by omega⟩ ⟨by omega, by omega⟩) (fun v40 z41 w42 p43 h44 hs45 hE46 => ?_)
  obtain ⟨rfl, rfl, rfl, hE46⟩ := hE46
  refine r_ld (pc' := 31) rfl rfl rfl rfl ?_
  refine r_ld (pc' := 32) rfl rfl rfl rfl ?_
  have hb48 := lr_rd hn hw (i := a2.toNat) (by omega)
  refine r_la (pc' := 33) rfl rfl hn.1 rfl (by omega) (by omega) rfl ?_
  refine r_lsub (pc' := 34) rfl rfl ?_
  refine w_hxl (fun v49 h50 h51 => ?_)
  refine r_ls (pc' := 35) rfl rfl hn.1 rfl (by omega) (by omega) hst (inS_0 (by omega) (by omega) (by omega) (by omega)) (wrr_w wn ⟨by omega, by omega⟩) (fun w52 hq53 hs54 => ?_)
  have hqw := hq53
  refine r_ld (pc' := 37) rfl rfl rfl rfl ?_
  refine r_nul_t rfl ?_
  exact w_lv (sub_c rfl (sub_c rfl sub_n)) rfl ((key ((9 : Int).toNat + 1)) z0 w52 hs54 (by funext j; rw [show w52 n j = w52 n j from rfl, hqw, mu_sf]; dsimp only; unfold fl; by_cases c : j = a2.toNat; (rw [if_pos c, if_pos c]; omega); (rw [if_neg c, if_neg c])) (by omega))
/-- Mover change -/
abbrev S_29t (n : Nat) : mS := [(n, n, 0, 17), (104, 121, 0, 17)]
abbrev E_29t (n : Nat) (a2 : Int) (a3 : Int) (a4 : Int) (a5 : Int) (a6 : Int) (z0 w0 : mZ) (x y tx it mt tt ct : Option Nat) : Int → mZ → mZ → mP → Prop := fun v z w p => p = (pq x y tx it mt tt ct) ∧ 0 ≤ v ∧ v ≤ 1 ∧ (w n = fl a2.toNat a3.toNat a5.toNat a4.toNat a6.toNat (w0 n) ∧ (v = 1 → w n a2.toNat ≤ 100000000000000))
theorem m_29t {d : Nat} {z0 w0 : mZ} {x y tx it mt tt ct : Option Nat} (n : Nat) (a2 : Int) (a3 : Int) (a4 : Int) (a5 : Int) (a6 : Int) (hz : rz z0) (hw : rw_ w0) (ha2 : 0 ≤ a2 ∧ a2 ≤ 17) (ha3 : 0 ≤ a3 ∧ a3 ≤ 17) (ha4 : 0 ≤ a4 ∧ a4 ≤ 17) (ha5 : 0 ≤ a5 ∧ a5 ≤ 17) (ha6 : 0 ≤ a6 ∧ a6 ≤ 17) (hnb : ∀ e : Nat, e < 18 → 0 ≤ w0 n e ∧ w0 n e ≤ 100000000000000) (hn : lr n) (b15n : 15 ≤ n) (wn : wrr n) (mn : 149 ≤ n ∧ n ≤ 157) : wc (d + 2) 29 [.ref 10, .ref n, .int (Int32.ofInt a2), .int (Int32.ofInt a3), .int (Int32.ofInt a4), .int (Int32.ofInt a5), .int (Int32.ofInt a6), .ref 102] (mk z0 w0 (pq x y tx it mt tt ct)) (poI (S_29t n) z0 w0 (E_29t n a2 a3 a4 a5 a6 z0 w0 x y tx it mt tt ct)) := by
  have hst : st_ (S_29t n) z0 w0 z0 w0 := st_rf hz hw
  have hn2 := hnb a2.toNat (by omega)
  have hn3 := hnb a3.toNat (by omega)
  have hn4 := hnb a4.toNat (by omega)
  have hn5 := hnb a5.toNat (by omega)
  have hn6 := hnb a6.toNat (by omega)
  have key : ∀ N : Nat, (∀ (z w : mZ), st_ (S_29t n) z0 w0 z w → (w n = fl a2.toNat a3.toNat a5.toNat a4.toNat a6.toNat (w0 n)) → 9 < (N : Int) → wp_ (d + 1) 29 12 (some .boolean) (75, [(1, .ref n), (2, .int (Int32.ofInt a2))], [], mk z w (pq x y tx it mt tt ct)) (poI (S_29t n) z0 w0 (E_29t n a2 a3 a4 a5 a6 z0 w0 x y tx it mt tt ct))) := by
    intro N
    induction N with
    | zero =>
      intro  z w
      intros; exfalso; omega
    | succ N ih =>
      have ih0 := ih; clear ih
      intro  z w  hst as1 hM
      refine r_ld (pc' := 76) rfl rfl rfl rfl ?_
      refine r_ld (pc' := 77) rfl rfl rfl rfl ?_
      have hb63 := lr_rd hn hst.2.1 (i := a2.toNat) (by omega)
      refine r_la (pc' := 78) rfl rfl hn.1 rfl (by omega) (by omega) rfl ?_
      refine r_al (pc' := 81) rfl rfl rfl rfl ?_
      refine r_lgt (pc' := 85) rfl rfl rfl ⟨by omega, by omega⟩ ⟨by decide, by decide⟩ (fun hc64 => ?_) (fun hc64 => ?_)
      · skip
        refine r_c0 (pc' := 90) rfl rfl ?_
        exact r_rz rfl (by omega) (po_I hst ⟨by decide, by decide⟩ ⟨rfl, by omega, by omega, (by exact ⟨as1, fun h => by omega⟩)⟩)
      · skip
        refine r_c0 (pc' := 86) rfl rfl ?_
        refine r_go rfl ?_
        exact r_rz rfl (by omega) (po_I hst ⟨by decide, by decide⟩ ⟨rfl, by omega, by omega, (by exact ⟨as1, fun h => by omega⟩)⟩)
  refine w_m rfl rfl ?_
  refine r_ld (pc' := 1) rfl rfl rfl rfl ?_
  refine r_ld (pc' := 2) rfl rfl rfl rfl ?_
  have hb65 := lr_rd hn hw (i := a3.toNat) (by omega)
  refine r_la (pc' := 3) rfl rfl hn.1 rfl (by omega) (by omega) rfl ?_
  refine r_ld (pc' := 4) rfl rfl rfl rfl ?_
  refine r_ld (pc' := 6) rfl rfl rfl rfl ?_
  have hb66 := lr_rd hn hw (i := a4.toNat) (by omega)
  refine r_la (pc' := 7) rfl rfl hn.1 rfl (by omega) (by omega) rfl ?_
  refine r_ladd (pc' := 8) rfl rfl ?_
  refine w_hxl (fun v67 h68 h69 => ?_)
  refine r_st (pc' := 10) (lv' := [(8, _), (0, _), (1, _), (2, _), (3, _), (4, _), (5, _), (6, _), (7, _)]) rfl rfl rfl rfl ?_
  refine r_ld (pc' := 11) rfl rfl rfl rfl ?_
  refine r_ld (pc' := 13) rfl rfl rfl rfl ?_
  have hb70 := lr_rd hn hw (i := a5.toNat) (by omega)
  refine r_la (pc' := 14) rfl rfl hn.1 rfl (by omega) (by omega) rfl ?_
  refine r_ld (pc' := 15) rfl rfl rfl rfl ?_
  refine r_ld (pc' := 17) rfl rfl rfl rfl ?_
  have hb71 := lr_rd hn hw (i := a6.toNat) (by omega)
  refine r_la (pc' := 18) rfl rfl hn.1 rfl (by omega) (by omega) rfl ?_
  refine r_ladd (pc' := 19) rfl rfl ?_
  refine w_hxl (fun v72 h73 h74 => ?_)
  refine r_st (pc' := 21) (lv' := [(10, _), (8, _), (0, _), (1, _), (2, _), (3, _), (4, _), (5, _), (6, _), (7, _)]) rfl rfl rfl rfl ?_
  refine r_ld (pc' := 22) rfl rfl rfl rfl ?_
  refine r_ld (pc' := 23) rfl rfl rfl rfl ?_
  refine r_ld (pc' := 25) rfl rfl rfl rfl ?_
  refine r_ld (pc' := 27) rfl rfl rfl rfl ?_
  refine r_cSL (pc' := 30) rfl rfl rfl rfl rfl (m_262 (d := d) v67 v72 hst.1 hst.2.1 ⟨by omega, by omega⟩ ⟨by omega, by omega⟩) (fun v75 z76 w77 p78 h79 hs80 hE81 => ?_)
  obtain ⟨rfl, rfl, rfl, hE81⟩ := hE81
  refine r_ld (pc' := 31) rfl rfl rfl rfl ?_
  refine r_ld (pc' := 32) rfl rfl rfl rfl ?_
  have hb83 := lr_rd hn hw (i := a2.toNat) (by omega)
  refine r_la (pc' := 33) rfl rfl hn.1 rfl (by omega) (by omega) rfl ?_
  refine r_lsub (pc' := 34) rfl rfl ?_
  refine w_hxl (fun v84 h85 h86 => ?_)
  refine r_ls (pc' := 35) rfl rfl hn.1 rfl (by omega) (by omega) hst (inS_0 (by omega) (by omega) (by omega) (by omega)) (wrr_w wn ⟨by omega, by omega⟩) (fun w87 hq88 hs89 => ?_)
  have hqw := hq88
  refine r_ld (pc' := 37) rfl rfl rfl rfl ?_
  refine r_nul_f (pc' := 40) rfl rfl ?_
  refine r_ld (pc' := 42) rfl rfl rfl rfl ?_
  refine r_ld (pc' := 43) rfl rfl rfl rfl ?_
  refine r_ld (pc' := 45) rfl rfl rfl rfl ?_
  refine r_ld (pc' := 47) rfl rfl rfl rfl ?_
  refine r_llt (pc' := 51) rfl rfl rfl ⟨by omega, by omega⟩ ⟨by omega, by omega⟩ (fun hc90 => ?_) (fun hc90 => ?_)
  · skip
    refine r_ld (pc' := 57) rfl rfl rfl rfl ?_
    refine r_ld (pc' := 59) rfl rfl rfl rfl ?_
    refine r_ld (pc' := 61) rfl rfl rfl rfl ?_
    refine r_llt (pc' := 65) rfl rfl rfl ⟨by omega, by omega⟩ ⟨by omega, by omega⟩ (fun hc91 => ?_) (fun hc91 => ?_)
    · skip
      refine r_ld (pc' := 72) rfl rfl rfl rfl ?_
      refine r_cVV (pc' := 75) rfl rfl rfl rfl rfl sh_102 (m_66 (d := d) a2 a5 a6 hs89.1 hs89.2.1 ⟨by omega, by omega⟩ ⟨by omega, by omega⟩ ⟨by omega, by omega⟩) (fun z93 w94 p95 hs97 hE98 => ?_)
      have hs99 := st_tr hs89 hs97 (subS_c (fun _ _ _ _ _ _ => inS_s (inS_0 (by omega) (by omega) (by omega) (by omega))) subS_n)
      obtain rfl := hE98
      exact w_lv (sub_c rfl (sub_c rfl sub_n)) rfl ((key ((9 : Int).toNat + 1)) z93 w94 hs99 (by funext j; rw [show w94 n j = w87 n j from (hs97.2.2.2 _ _ (notS_c (by omega) notS_n)), hqw, mu_sf]; dsimp only; unfold fl; by_cases c : j = a2.toNat; (rw [if_pos c, if_pos c]; omega); (rw [if_neg c, if_neg c])) (by omega))
    · skip
      refine r_ld (pc' := 67) rfl rfl rfl rfl ?_
      refine r_go rfl ?_
      refine r_cVV (pc' := 75) rfl rfl rfl rfl rfl sh_102 (m_66 (d := d) a2 a5 a4 hs89.1 hs89.2.1 ⟨by omega, by omega⟩ ⟨by omega, by omega⟩ ⟨by omega, by omega⟩) (fun z101 w102 p103 hs105 hE106 => ?_)
      have hs107 := st_tr hs89 hs105 (subS_c (fun _ _ _ _ _ _ => inS_s (inS_0 (by omega) (by omega) (by omega) (by omega))) subS_n)
      obtain rfl := hE106
      exact w_lv (sub_c rfl (sub_c rfl sub_n)) rfl ((key ((9 : Int).toNat + 1)) z101 w102 hs107 (by funext j; rw [show w102 n j = w87 n j from (hs105.2.2.2 _ _ (notS_c (by omega) notS_n)), hqw, mu_sf]; dsimp only; unfold fl; by_cases c : j = a2.toNat; (rw [if_pos c, if_pos c]; omega); (rw [if_neg c, if_neg c])) (by omega))
  · skip
    refine r_ld (pc' := 52) rfl rfl rfl rfl ?_
    refine r_go rfl ?_
    refine r_ld (pc' := 59) rfl rfl rfl rfl ?_
    refine r_ld (pc' := 61) rfl rfl rfl rfl ?_
    refine r_llt (pc' := 65) rfl rfl rfl ⟨by omega, by omega⟩ ⟨by omega, by omega⟩ (fun hc108 => ?_) (fun hc108 => ?_)
    · skip
      refine r_ld (pc' := 72) rfl rfl rfl rfl ?_
      refine r_cVV (pc' := 75) rfl rfl rfl rfl rfl sh_102 (m_66 (d := d) a2 a3 a6 hs89.1 hs89.2.1 ⟨by omega, by omega⟩ ⟨by omega, by omega⟩ ⟨by omega, by omega⟩) (fun z110 w111 p112 hs114 hE115 => ?_)
      have hs116 := st_tr hs89 hs114 (subS_c (fun _ _ _ _ _ _ => inS_s (inS_0 (by omega) (by omega) (by omega) (by omega))) subS_n)
      obtain rfl := hE115
      exact w_lv (sub_c rfl (sub_c rfl sub_n)) rfl ((key ((9 : Int).toNat + 1)) z110 w111 hs116 (by funext j; rw [show w111 n j = w87 n j from (hs114.2.2.2 _ _ (notS_c (by omega) notS_n)), hqw, mu_sf]; dsimp only; unfold fl; by_cases c : j = a2.toNat; (rw [if_pos c, if_pos c]; omega); (rw [if_neg c, if_neg c])) (by omega))
    · skip
      refine r_ld (pc' := 67) rfl rfl rfl rfl ?_
      refine r_go rfl ?_
      refine r_cVV (pc' := 75) rfl rfl rfl rfl rfl sh_102 (m_66 (d := d) a2 a3 a4 hs89.1 hs89.2.1 ⟨by omega, by omega⟩ ⟨by omega, by omega⟩ ⟨by omega, by omega⟩) (fun z118 w119 p120 hs122 hE123 => ?_)
      have hs124 := st_tr hs89 hs122 (subS_c (fun _ _ _ _ _ _ => inS_s (inS_0 (by omega) (by omega) (by omega) (by omega))) subS_n)
      obtain rfl := hE123
      exact w_lv (sub_c rfl (sub_c rfl sub_n)) rfl ((key ((9 : Int).toNat + 1)) z118 w119 hs124 (by funext j; rw [show w119 n j = w87 n j from (hs122.2.2.2 _ _ (notS_c (by omega) notS_n)), hqw, mu_sf]; dsimp only; unfold fl; by_cases c : j = a2.toNat; (rw [if_pos c, if_pos c]; omega); (rw [if_neg c, if_neg c])) (by omega))
/-- Mover exchange -/
abbrev S_30n (n : Nat) : mS := [(n, n, 0, 17)]
abbrev E_30n (n : Nat) (a2 : Int) (a3 : Int) (z0 w0 : mZ) (x y tx it mt tt ct : Option Nat) : mZ → mZ → mP → Prop := fun z w p => p = (pq x y tx it mt tt ct) ∧ (w n = fun j => if j = a3.toNat then w0 n a2.toNat else if j = a2.toNat then w0 n a3.toNat else w0 n j)
theorem m_30n {d : Nat} {z0 w0 : mZ} {x y tx it mt tt ct : Option Nat} (n : Nat) (a2 : Int) (a3 : Int) (hz : rz z0) (hw : rw_ w0) (ha2 : 0 ≤ a2 ∧ a2 ≤ 17) (ha3 : 0 ≤ a3 ∧ a3 ≤ 17) (hn : lr n) (b15n : 15 ≤ n) (wn : wrr n) (mn : 149 ≤ n ∧ n ≤ 157) : wc (d + 2) 30 [.ref 10, .ref n, .int (Int32.ofInt a2), .int (Int32.ofInt a3), .null] (mk z0 w0 (pq x y tx it mt tt ct)) (poV (S_30n n) z0 w0 (E_30n n a2 a3 z0 w0 x y tx it mt tt ct)) := by
  have hst : st_ (S_30n n) z0 w0 z0 w0 := st_rf hz hw
  refine w_m rfl rfl ?_
  refine r_ld (pc' := 1) rfl rfl rfl rfl ?_
  refine r_ld (pc' := 2) rfl rfl rfl rfl ?_
  have hb9 := lr_rd hn hw (i := a2.toNat) (by omega)
  refine r_la (pc' := 3) rfl rfl hn.1 rfl (by omega) (by omega) rfl ?_
  refine r_st (pc' := 5) (lv' := [(5, _), (0, _), (1, _), (2, _), (3, _), (4, _)]) rfl rfl rfl rfl ?_
  refine r_ld (pc' := 6) rfl rfl rfl rfl ?_
  refine r_ld (pc' := 7) rfl rfl rfl rfl ?_
  refine r_ld (pc' := 8) rfl rfl rfl rfl ?_
  refine r_ld (pc' := 9) rfl rfl rfl rfl ?_
  have hb10 := lr_rd hn hw (i := a3.toNat) (by omega)
  refine r_la (pc' := 10) rfl rfl hn.1 rfl (by omega) (by omega) rfl ?_
  refine r_ls (pc' := 11) rfl rfl hn.1 rfl (by omega) (by omega) hst (inS_0 (by omega) (by omega) (by omega) (by omega)) (wrr_w wn ⟨by omega, by omega⟩) (fun w11 hq12 hs13 => ?_)
  have hq10 := hq12
  refine r_ld (pc' := 12) rfl rfl rfl rfl ?_
  refine r_ld (pc' := 13) rfl rfl rfl rfl ?_
  refine r_ld (pc' := 15) rfl rfl rfl rfl ?_
  refine r_ls (pc' := 16) rfl rfl hn.1 rfl (by omega) (by omega) hs13 (inS_0 (by omega) (by omega) (by omega) (by omega)) (wrr_w wn ⟨by omega, by omega⟩) (fun w14 hq15 hs16 => ?_)
  have hq15 := hq15
  refine r_ld (pc' := 18) rfl rfl rfl rfl ?_
  refine r_nul_t rfl ?_
  exact r_ret rfl (po_V hs16 ⟨rfl, (by funext j; rw [show w14 n j = w14 n j from rfl, hq15, mu_sf, hq10, mu_sf])⟩)
/-- Mover exchange -/
abbrev S_30t (n : Nat) : mS := [(n, n, 0, 17), (104, 121, 0, 17)]
abbrev E_30t (n : Nat) (a2 : Int) (a3 : Int) (z0 w0 : mZ) (x y tx it mt tt ct : Option Nat) : mZ → mZ → mP → Prop := fun z w p => p = (pq x y tx it mt tt ct) ∧ (w n = fun j => if j = a3.toNat then w0 n a2.toNat else if j = a2.toNat then w0 n a3.toNat else w0 n j)
theorem m_30t {d : Nat} {z0 w0 : mZ} {x y tx it mt tt ct : Option Nat} (n : Nat) (a2 : Int) (a3 : Int) (hz : rz z0) (hw : rw_ w0) (ha2 : 0 ≤ a2 ∧ a2 ≤ 17) (ha3 : 0 ≤ a3 ∧ a3 ≤ 17) (hn : lr n) (b15n : 15 ≤ n) (wn : wrr n) (mn : 149 ≤ n ∧ n ≤ 157) : wc (d + 2) 30 [.ref 10, .ref n, .int (Int32.ofInt a2), .int (Int32.ofInt a3), .ref 102] (mk z0 w0 (pq x y tx it mt tt ct)) (poV (S_30t n) z0 w0 (E_30t n a2 a3 z0 w0 x y tx it mt tt ct)) := by
  have hst : st_ (S_30t n) z0 w0 z0 w0 := st_rf hz hw
  refine w_m rfl rfl ?_
  refine r_ld (pc' := 1) rfl rfl rfl rfl ?_
  refine r_ld (pc' := 2) rfl rfl rfl rfl ?_
  have hb17 := lr_rd hn hw (i := a2.toNat) (by omega)
  refine r_la (pc' := 3) rfl rfl hn.1 rfl (by omega) (by omega) rfl ?_
  refine r_st (pc' := 5) (lv' := [(5, _), (0, _), (1, _), (2, _), (3, _), (4, _)]) rfl rfl rfl rfl ?_
  refine r_ld (pc' := 6) rfl rfl rfl rfl ?_
  refine r_ld (pc' := 7) rfl rfl rfl rfl ?_
  refine r_ld (pc' := 8) rfl rfl rfl rfl ?_
  refine r_ld (pc' := 9) rfl rfl rfl rfl ?_
  have hb18 := lr_rd hn hw (i := a3.toNat) (by omega)
  refine r_la (pc' := 10) rfl rfl hn.1 rfl (by omega) (by omega) rfl ?_
  refine r_ls (pc' := 11) rfl rfl hn.1 rfl (by omega) (by omega) hst (inS_0 (by omega) (by omega) (by omega) (by omega)) (wrr_w wn ⟨by omega, by omega⟩) (fun w19 hq20 hs21 => ?_)
  have hq10 := hq20
  refine r_ld (pc' := 12) rfl rfl rfl rfl ?_
  refine r_ld (pc' := 13) rfl rfl rfl rfl ?_
  refine r_ld (pc' := 15) rfl rfl rfl rfl ?_
  refine r_ls (pc' := 16) rfl rfl hn.1 rfl (by omega) (by omega) hs21 (inS_0 (by omega) (by omega) (by omega) (by omega)) (wrr_w wn ⟨by omega, by omega⟩) (fun w22 hq23 hs24 => ?_)
  have hq15 := hq23
  refine r_ld (pc' := 18) rfl rfl rfl rfl ?_
  refine r_nul_f (pc' := 21) rfl rfl ?_
  refine r_ld (pc' := 23) rfl rfl rfl rfl ?_
  refine r_ld (pc' := 24) rfl rfl rfl rfl ?_
  refine r_ld (pc' := 25) rfl rfl rfl rfl ?_
  refine r_cVV (pc' := 28) rfl rfl rfl rfl rfl sh_102 (m_67 (d := d) a2 a3 hs24.1 hs24.2.1 ⟨by omega, by omega⟩ ⟨by omega, by omega⟩) (fun z26 w27 p28 hs30 hE31 => ?_)
  have hs32 := st_tr hs24 hs30 (subS_c (fun _ _ _ _ _ _ => inS_s (inS_0 (by omega) (by omega) (by omega) (by omega))) subS_n)
  obtain rfl := hE31
  exact r_ret rfl (po_V hs32 ⟨rfl, (by funext j; rw [show w27 n j = w22 n j from (hs30.2.2.2 _ _ (notS_c (by omega) notS_n)), hq15, mu_sf, hq10, mu_sf])⟩)
/-- Mover passFlips -/
abbrev S_28n (n : Nat) : mS := [(n, n, 0, 17)]
abbrev E_28n (m : Nat) (T : Nat → Nat) (G : Nat → (Nat → Int) → Prop) (n : Nat) (rk : Nat) (a3 : Int) (z0 w0 : mZ) (x y tx it mt tt ct : Option Nat) : Int → mZ → mZ → mP → Prop := fun v z w p => p = (pq x y tx it mt tt ct) ∧ 0 ≤ v ∧ v ≤ 1 ∧ ((v = 1 → (a3 = 0 → G (z0 (17 + 2 * rk) 1).toNat (w n)) ∧ (a3 = 1 → G 0 (w n)) ∧ ∀ e : Nat, e < 18 → 0 ≤ w n e ∧ w n e ≤ 100000000000000))
theorem m_28n {d : Nat} {z0 w0 : mZ} {x y tx it mt tt ct : Option Nat} (m : Nat) (T : Nat → Nat) (G : Nat → (Nat → Int) → Prop) (n : Nat) (rk : Nat) (a3 : Int) (hz : rz z0) (hw : rw_ w0) (ha3 : 0 ≤ a3 ∧ a3 ≤ 1) (hrk : rk < 8) (hnb : ∀ e : Nat, e < 18 → 0 ≤ w0 n e ∧ w0 n e ≤ 100000000000000) (hgo : GRo m T (cfR (z0 (18 + 2 * rk))) (z0 (17 + 2 * rk) 1).toNat G) (hG : (a3 = 0 → G 0 (w0 n)) ∧ (a3 = 1 → G (z0 (17 + 2 * rk) 1).toNat (w0 n))) (hn : lr n) (b15n : 15 ≤ n) (wn : wrr n) (mn : 149 ≤ n ∧ n ≤ 157) : wc (d + 3) 28 [.ref 10, .ref n, .ref (17 + 2 * rk), .int (Int32.ofInt a3), .null] (mk z0 w0 (pq x y tx it mt tt ct)) (poI (S_28n n) z0 w0 (E_28n m T G n rk a3 z0 w0 x y tx it mt tt ct)) := by
  have hst : st_ (S_28n n) z0 w0 z0 w0 := st_rf hz hw
  have hcz := rd_R_1 (k := rk) (by omega) hz
  have key : ∀ N : Nat, (∀ (x5 : Int) (z w : mZ), 0 ≤ x5 ∧ x5 ≤ 1782 → st_ (S_28n n) z0 w0 z w → ((a3 = 0 → G x5.toNat (w n)) ∧ (a3 = 1 → G (z0 (17 + 2 * rk) 1 - x5).toNat (w n))) → (∀ e : Nat, e < 18 → 0 ≤ w n e ∧ w n e ≤ 100000000000000) → (x5 ≤ z0 (17 + 2 * rk) 1) → 62 * (1782 - x5) + 59 < (N : Int) → wp_ (d + 2) 28 11 (some .boolean) (3, [(0, .ref 10), (1, .ref n), (2, .ref (17 + 2 * rk)), (3, .int (Int32.ofInt a3)), (4, .null), (5, .int (Int32.ofInt x5))], [], mk z w (pq x y tx it mt tt ct)) (poI (S_28n n) z0 w0 (E_28n m T G n rk a3 z0 w0 x y tx it mt tt ct))) := by
    intro N
    induction N with
    | zero =>
      intro x5 z w
      intros; exfalso; omega
    | succ N ih =>
      have ih0 := ih; clear ih
      intro x5 z w  hx5 hst as1 as2 as3 hM
      refine r_ld (pc' := 5) rfl rfl rfl rfl ?_
      refine r_ld (pc' := 6) rfl rfl rfl rfl ?_
      have hb24 := rd_R_1 (k := rk) (by omega) hz
      refine r_gi (pc' := 9) rfl rfl (sh_R (k := rk) (by omega)) rfl (hst.2.2.1 _ _ (notS_c (by omega) notS_n)) ?_
      refine r_ige (pc' := 12) rfl rfl ⟨by omega, by omega⟩ ⟨by omega, by omega⟩ (fun hc25 => ?_) (fun hc25 => ?_)
      · skip
        refine r_c0 (pc' := 108) rfl rfl ?_
        exact r_rz rfl (by omega) (po_I hst ⟨by decide, by decide⟩ ⟨rfl, by omega, by omega, (by first | (intro h; exfalso; omega) | (intro _; exact ⟨fun h => by rw [show (z0 (17 + 2 * rk) 1).toNat = x5.toNat by omega]; exact as1.1 h, fun h => by have q := as1.2 h; rw [show (z0 (17 + 2 * rk) 1 - x5).toNat = 0 by omega] at q; exact q, as2⟩))⟩)
      · skip
        refine r_ld (pc' := 13) rfl rfl rfl rfl ?_
        refine r_gr (b := 18 + 2 * rk) (pc' := 16) rfl rfl (sh_R (k := rk) (by omega)) rfl (pp_R (k := rk) (by omega)) ?_
        refine r_ld (pc' := 17) rfl rfl rfl rfl ?_
        refine r_zeq (pc' := 20) rfl rfl ⟨by omega, by omega⟩ (fun hc26 => ?_) (fun hc26 => ?_)
        · skip
          refine r_ld (pc' := 34) rfl rfl rfl rfl ?_
          have hb27 := rd_RF (k := rk) (by omega) hz (i := x5.toNat) (by omega)
          unfold ok_f at hb27
          refine r_ia (pc' := 35) rfl rfl (sh_RF (k := rk) (by omega)) rfl (by omega) (by omega) (hst.2.2.1 _ _ (notS_c (by omega) notS_n)) ?_
          refine r_st (pc' := 37) (lv' := [(6, _), (0, _), (1, _), (2, _), (3, _), (4, _), (5, _)]) rfl rfl rfl rfl ?_
          refine r_ld (pc' := 39) rfl rfl rfl rfl ?_
          refine r_c0 (pc' := 40) rfl rfl ?_
          refine r_shr (s := 5) (pc' := 41) rfl rfl ⟨by omega, by omega⟩ (by decide) ?_
          refine r_cb (pc' := 43) rfl (by decide) rfl ?_
          refine r_msk (m := 31) (n := 5) (pc' := 44) rfl rfl ⟨by omega, by omega⟩ (by decide) (by decide) ?_
          refine r_st (pc' := 46) (lv' := [(7, _), (6, _), (0, _), (1, _), (2, _), (3, _), (4, _), (5, _)]) rfl rfl rfl rfl ?_
          refine r_ld (pc' := 48) rfl rfl rfl rfl ?_
          refine r_cb (pc' := 50) rfl (by decide) rfl ?_
          refine r_shr (s := 10) (pc' := 51) rfl rfl ⟨by omega, by omega⟩ (by decide) ?_
          refine r_cb (pc' := 53) rfl (by decide) rfl ?_
          refine r_msk (m := 31) (n := 5) (pc' := 54) rfl rfl ⟨by omega, by omega⟩ (by decide) (by decide) ?_
          refine r_st (pc' := 56) (lv' := [(8, _), (7, _), (6, _), (0, _), (1, _), (2, _), (3, _), (4, _), (5, _)]) rfl rfl rfl rfl ?_
          refine r_ld (pc' := 58) rfl rfl rfl rfl ?_
          refine r_cb (pc' := 60) rfl (by decide) rfl ?_
          refine r_shr (s := 15) (pc' := 61) rfl rfl ⟨by omega, by omega⟩ (by decide) ?_
          refine r_cb (pc' := 63) rfl (by decide) rfl ?_
          refine r_msk (m := 31) (n := 5) (pc' := 64) rfl rfl ⟨by omega, by omega⟩ (by decide) (by decide) ?_
          refine r_st (pc' := 66) (lv' := [(9, _), (8, _), (7, _), (6, _), (0, _), (1, _), (2, _), (3, _), (4, _), (5, _)]) rfl rfl rfl rfl ?_
          refine r_ld (pc' := 68) rfl rfl rfl rfl ?_
          refine r_cb (pc' := 70) rfl (by decide) rfl ?_
          refine r_shr (s := 20) (pc' := 71) rfl rfl ⟨by omega, by omega⟩ (by decide) ?_
          refine r_cb (pc' := 73) rfl (by decide) rfl ?_
          refine r_msk (m := 31) (n := 5) (pc' := 74) rfl rfl ⟨by omega, by omega⟩ (by decide) (by decide) ?_
          refine r_st (pc' := 76) (lv' := [(10, _), (9, _), (8, _), (7, _), (6, _), (0, _), (1, _), (2, _), (3, _), (4, _), (5, _)]) rfl rfl rfl rfl ?_
          refine r_ld (pc' := 77) rfl rfl rfl rfl ?_
          refine r_ld (pc' := 78) rfl rfl rfl rfl ?_
          refine r_ld (pc' := 80) rfl rfl rfl rfl ?_
          refine r_cb (pc' := 82) rfl (by decide) rfl ?_
          refine r_msk (m := 31) (n := 5) (pc' := 83) rfl rfl ⟨by omega, by omega⟩ (by decide) (by decide) ?_
          refine r_ld (pc' := 85) rfl rfl rfl rfl ?_
          refine r_ld (pc' := 87) rfl rfl rfl rfl ?_
          refine r_ld (pc' := 89) rfl rfl rfl rfl ?_
          refine r_ld (pc' := 91) rfl rfl rfl rfl ?_
          refine r_ld (pc' := 93) rfl rfl rfl rfl ?_
          refine r_cVI (pc' := 96) rfl rfl rfl rfl rfl sh_10 (m_29n (d := d) n ((z0 (18 + 2 * rk) x5.toNat) % 2 ^ 5) (((z0 (18 + 2 * rk) x5.toNat) / 2 ^ 5) % 2 ^ 5) (((z0 (18 + 2 * rk) x5.toNat) / 2 ^ 15) % 2 ^ 5) (((z0 (18 + 2 * rk) x5.toNat) / 2 ^ 10) % 2 ^ 5) (((z0 (18 + 2 * rk) x5.toNat) / 2 ^ 20) % 2 ^ 5) hst.1 hst.2.1 ⟨by omega, by omega⟩ ⟨by omega, by omega⟩ ⟨by omega, by omega⟩ ⟨by omega, by omega⟩ ⟨by omega, by omega⟩ (by exact as2) hn (by first | omega | assumption) wn (by first | omega | assumption)) (fun v28 z29 w30 p31 h32 hs33 hE34 => ?_)
          have hs35 := st_tr hst hs33 (subS_c (fun _ _ _ _ _ _ => inS_0 (by omega) (by omega) (by omega) (by omega)) subS_n)
          obtain ⟨rfl, hE34⟩ := hE34
          have hch := hE34
          refine r_zne (pc' := 99) rfl rfl ⟨by omega, by omega⟩ (fun hc36 => ?_) (fun hc36 => ?_)
          · skip
            have hgd : (a3 = 0 ∨ a3 = 1) := by omega
            have hgn : (a3 = 0 → G (x5 + 1).toNat (w30 n)) ∧ (a3 = 1 → G (z0 (17 + 2 * rk) 1 - (x5 + 1)).toNat (w30 n)) := ⟨fun h => by first | (exfalso; omega) | exact GRo_fw hgo (i := x5.toNat) (by omega) (as1.1 h) hch.2.2.1 (by omega), fun h => by first | (exfalso; omega) | exact GRo_bw hgo (i := (z0 (17 + 2 * rk) 1 - (x5 + 1)).toNat) (by omega) (as1.2 h) (by rw [show (z0 (17 + 2 * rk) 1 - (x5 + 1)).toNat = (z0 (17 + 2 * rk) 1 - 1 - x5).toNat by omega]; exact hch.2.2.1) (by omega)⟩
            have hnn : ∀ j, j < 18 → 0 ≤ w30 n j := by rcases hgd with h | h; exact hgo.nn (x5 + 1).toNat _ (by omega) (hgn.1 h); exact hgo.nn (z0 (17 + 2 * rk) 1 - (x5 + 1)).toNat _ (by omega) (hgn.2 h)
            refine r_inc (pc' := 104) (lv' := [(10, _), (9, _), (8, _), (7, _), (6, _), (0, _), (1, _), (2, _), (3, _), (4, _)]) rfl rfl rfl rfl rfl ?_
            refine r_go rfl ?_
            exact w_lv (sub_c rfl (sub_c rfl (sub_c rfl (sub_c rfl (sub_c rfl (sub_c rfl sub_n)))))) rfl (ih0 (x5 + 1) z29 w30 ⟨by omega, by omega⟩ hs35 (by first | exact hgn | exact ⟨fun h => hG.1 h, fun h => by rw [show (z0 (17 + 2 * rk) 1 - 0).toNat = (z0 (17 + 2 * rk) 1).toNat by omega]; exact hG.2 h⟩) (by first | exact hnb | exact nb_fl as2 hch.2.2.1 (hnn _ (by omega)) (hch.2.2.2 (by omega))) (by first | omega | assumption) (by omega))
          · skip
            refine r_c0 (pc' := 100) rfl rfl ?_
            exact r_rz rfl (by omega) (po_I hs35 ⟨by decide, by decide⟩ ⟨rfl, by omega, by omega, (by first | (intro h; exfalso; omega) | (intro _; exact ⟨fun h => by rw [show (z0 (17 + 2 * rk) 1).toNat = x5.toNat by omega]; exact as1.1 h, fun h => by have q := as1.2 h; rw [show (z0 (17 + 2 * rk) 1 - x5).toNat = 0 by omega] at q; exact q, as2⟩))⟩)
        · skip
          refine r_ld (pc' := 21) rfl rfl rfl rfl ?_
          refine r_gi (pc' := 24) rfl rfl (sh_R (k := rk) (by omega)) rfl (hst.2.2.1 _ _ (notS_c (by omega) notS_n)) ?_
          refine r_c0 (pc' := 25) rfl rfl ?_
          refine r_sub (pc' := 26) rfl rfl ?_
          refine r_ld (pc' := 28) rfl rfl rfl rfl ?_
          refine r_sub (pc' := 29) rfl rfl ?_
          refine r_go rfl ?_
          have hb37 := rd_RF (k := rk) (by omega) hz (i := (((z0 (17 + 2 * rk) 1) - 1) - x5).toNat) (by omega)
          unfold ok_f at hb37
          refine r_ia (pc' := 35) rfl rfl (sh_RF (k := rk) (by omega)) rfl (by omega) (by omega) (hst.2.2.1 _ _ (notS_c (by omega) notS_n)) ?_
          refine r_st (pc' := 37) (lv' := [(6, _), (0, _), (1, _), (2, _), (3, _), (4, _), (5, _)]) rfl rfl rfl rfl ?_
          refine r_ld (pc' := 39) rfl rfl rfl rfl ?_
          refine r_c0 (pc' := 40) rfl rfl ?_
          refine r_shr (s := 5) (pc' := 41) rfl rfl ⟨by omega, by omega⟩ (by decide) ?_
          refine r_cb (pc' := 43) rfl (by decide) rfl ?_
          refine r_msk (m := 31) (n := 5) (pc' := 44) rfl rfl ⟨by omega, by omega⟩ (by decide) (by decide) ?_
          refine r_st (pc' := 46) (lv' := [(7, _), (6, _), (0, _), (1, _), (2, _), (3, _), (4, _), (5, _)]) rfl rfl rfl rfl ?_
          refine r_ld (pc' := 48) rfl rfl rfl rfl ?_
          refine r_cb (pc' := 50) rfl (by decide) rfl ?_
          refine r_shr (s := 10) (pc' := 51) rfl rfl ⟨by omega, by omega⟩ (by decide) ?_
          refine r_cb (pc' := 53) rfl (by decide) rfl ?_
          refine r_msk (m := 31) (n := 5) (pc' := 54) rfl rfl ⟨by omega, by omega⟩ (by decide) (by decide) ?_
          refine r_st (pc' := 56) (lv' := [(8, _), (7, _), (6, _), (0, _), (1, _), (2, _), (3, _), (4, _), (5, _)]) rfl rfl rfl rfl ?_
          refine r_ld (pc' := 58) rfl rfl rfl rfl ?_
          refine r_cb (pc' := 60) rfl (by decide) rfl ?_
          refine r_shr (s := 15) (pc' := 61) rfl rfl ⟨by omega, by omega⟩ (by decide) ?_
          refine r_cb (pc' := 63) rfl (by decide) rfl ?_
          refine r_msk (m := 31) (n := 5) (pc' := 64) rfl rfl ⟨by omega, by omega⟩ (by decide) (by decide) ?_
          refine r_st (pc' := 66) (lv' := [(9, _), (8, _), (7, _), (6, _), (0, _), (1, _), (2, _), (3, _), (4, _), (5, _)]) rfl rfl rfl rfl ?_
          refine r_ld (pc' := 68) rfl rfl rfl rfl ?_
          refine r_cb (pc' := 70) rfl (by decide) rfl ?_
          refine r_shr (s := 20) (pc' := 71) rfl rfl ⟨by omega, by omega⟩ (by decide) ?_
          refine r_cb (pc' := 73) rfl (by decide) rfl ?_
          refine r_msk (m := 31) (n := 5) (pc' := 74) rfl rfl ⟨by omega, by omega⟩ (by decide) (by decide) ?_
          refine r_st (pc' := 76) (lv' := [(10, _), (9, _), (8, _), (7, _), (6, _), (0, _), (1, _), (2, _), (3, _), (4, _), (5, _)]) rfl rfl rfl rfl ?_
          refine r_ld (pc' := 77) rfl rfl rfl rfl ?_
          refine r_ld (pc' := 78) rfl rfl rfl rfl ?_
          refine r_ld (pc' := 80) rfl rfl rfl rfl ?_
          refine r_cb (pc' := 82) rfl (by decide) rfl ?_
          refine r_msk (m := 31) (n := 5) (pc' := 83) rfl rfl ⟨by omega, by omega⟩ (by decide) (by decide) ?_
          refine r_ld (pc' := 85) rfl rfl rfl rfl ?_
          refine r_ld (pc' := 87) rfl rfl rfl rfl ?_
          refine r_ld (pc' := 89) rfl rfl rfl rfl ?_
          refine r_ld (pc' := 91) rfl rfl rfl rfl ?_
          refine r_ld (pc' := 93) rfl rfl rfl rfl ?_
          refine r_cVI (pc' := 96) rfl rfl rfl rfl rfl sh_10 (m_29n (d := d) n ((z0 (18 + 2 * rk) (((z0 (17 + 2 * rk) 1) - 1) - x5).toNat) % 2 ^ 5) (((z0 (18 + 2 * rk) (((z0 (17 + 2 * rk) 1) - 1) - x5).toNat) / 2 ^ 5) % 2 ^ 5) (((z0 (18 + 2 * rk) (((z0 (17 + 2 * rk) 1) - 1) - x5).toNat) / 2 ^ 15) % 2 ^ 5) (((z0 (18 + 2 * rk) (((z0 (17 + 2 * rk) 1) - 1) - x5).toNat) / 2 ^ 10) % 2 ^ 5) (((z0 (18 + 2 * rk) (((z0 (17 + 2 * rk) 1) - 1) - x5).toNat) / 2 ^ 20) % 2 ^ 5) hst.1 hst.2.1 ⟨by omega, by omega⟩ ⟨by omega, by omega⟩ ⟨by omega, by omega⟩ ⟨by omega, by omega⟩ ⟨by omega, by omega⟩ (by exact as2) hn (by first | omega | assumption) wn (by first | omega | assumption)) (fun v38 z39 w40 p41 h42 hs43 hE44 => ?_)
          have hs45 := st_tr hst hs43 (subS_c (fun _ _ _ _ _ _ => inS_0 (by omega) (by omega) (by omega) (by omega)) subS_n)
          obtain ⟨rfl, hE44⟩ := hE44
          have hch := hE44
          refine r_zne (pc' := 99) rfl rfl ⟨by omega, by omega⟩ (fun hc46 => ?_) (fun hc46 => ?_)
          · skip
            have hgd : (a3 = 0 ∨ a3 = 1) := by omega
            have hgn : (a3 = 0 → G (x5 + 1).toNat (w40 n)) ∧ (a3 = 1 → G (z0 (17 + 2 * rk) 1 - (x5 + 1)).toNat (w40 n)) := ⟨fun h => by first | (exfalso; omega) | exact GRo_fw hgo (i := x5.toNat) (by omega) (as1.1 h) hch.2.2.1 (by omega), fun h => by first | (exfalso; omega) | exact GRo_bw hgo (i := (z0 (17 + 2 * rk) 1 - (x5 + 1)).toNat) (by omega) (as1.2 h) (by rw [show (z0 (17 + 2 * rk) 1 - (x5 + 1)).toNat = (z0 (17 + 2 * rk) 1 - 1 - x5).toNat by omega]; exact hch.2.2.1) (by omega)⟩
            have hnn : ∀ j, j < 18 → 0 ≤ w40 n j := by rcases hgd with h | h; exact hgo.nn (x5 + 1).toNat _ (by omega) (hgn.1 h); exact hgo.nn (z0 (17 + 2 * rk) 1 - (x5 + 1)).toNat _ (by omega) (hgn.2 h)
            refine r_inc (pc' := 104) (lv' := [(10, _), (9, _), (8, _), (7, _), (6, _), (0, _), (1, _), (2, _), (3, _), (4, _)]) rfl rfl rfl rfl rfl ?_
            refine r_go rfl ?_
            exact w_lv (sub_c rfl (sub_c rfl (sub_c rfl (sub_c rfl (sub_c rfl (sub_c rfl sub_n)))))) rfl (ih0 (x5 + 1) z39 w40 ⟨by omega, by omega⟩ hs45 (by first | exact hgn | exact ⟨fun h => hG.1 h, fun h => by rw [show (z0 (17 + 2 * rk) 1 - 0).toNat = (z0 (17 + 2 * rk) 1).toNat by omega]; exact hG.2 h⟩) (by first | exact hnb | exact nb_fl as2 hch.2.2.1 (hnn _ (by omega)) (hch.2.2.2 (by omega))) (by first | omega | assumption) (by omega))
          · skip
            refine r_c0 (pc' := 100) rfl rfl ?_
            exact r_rz rfl (by omega) (po_I hs45 ⟨by decide, by decide⟩ ⟨rfl, by omega, by omega, (by first | (intro h; exfalso; omega) | (intro _; exact ⟨fun h => by rw [show (z0 (17 + 2 * rk) 1).toNat = x5.toNat by omega]; exact as1.1 h, fun h => by have q := as1.2 h; rw [show (z0 (17 + 2 * rk) 1 - x5).toNat = 0 by omega] at q; exact q, as2⟩))⟩)
  refine w_m rfl rfl ?_
  refine r_c0 (pc' := 1) rfl rfl ?_
  refine r_st (pc' := 3) (lv' := [(5, _), (0, _), (1, _), (2, _), (3, _), (4, _)]) rfl rfl rfl rfl ?_
  exact w_lv (sub_c rfl (sub_c rfl (sub_c rfl (sub_c rfl (sub_c rfl (sub_c rfl sub_n)))))) rfl ((key ((62 * (1782 - 0) + 59 : Int).toNat + 1)) 0 z0 w0 ⟨by omega, by omega⟩ hst (by first | exact hgn | exact ⟨fun h => hG.1 h, fun h => by rw [show (z0 (17 + 2 * rk) 1 - 0).toNat = (z0 (17 + 2 * rk) 1).toNat by omega]; exact hG.2 h⟩) (by first | exact hnb | exact nb_fl as2 hch.2.2.1 (hnn _ (by omega)) (hch.2.2.2 (by omega))) (by first | omega | assumption) (by omega))
/-- Mover passFlips -/
abbrev S_28t (n : Nat) : mS := [(n, n, 0, 17), (104, 121, 0, 17)]
abbrev E_28t (m : Nat) (T : Nat → Nat) (G : Nat → (Nat → Int) → Prop) (n : Nat) (rk : Nat) (a3 : Int) (z0 w0 : mZ) (x y tx it mt tt ct : Option Nat) : Int → mZ → mZ → mP → Prop := fun v z w p => p = (pq x y tx it mt tt ct) ∧ 0 ≤ v ∧ v ≤ 1 ∧ ((v = 1 → (a3 = 0 → G (z0 (17 + 2 * rk) 1).toNat (w n)) ∧ (a3 = 1 → G 0 (w n)) ∧ ∀ e : Nat, e < 18 → 0 ≤ w n e ∧ w n e ≤ 100000000000000))
theorem m_28t {d : Nat} {z0 w0 : mZ} {x y tx it mt tt ct : Option Nat} (m : Nat) (T : Nat → Nat) (G : Nat → (Nat → Int) → Prop) (n : Nat) (rk : Nat) (a3 : Int) (hz : rz z0) (hw : rw_ w0) (ha3 : 0 ≤ a3 ∧ a3 ≤ 1) (hrk : rk < 8) (hnb : ∀ e : Nat, e < 18 → 0 ≤ w0 n e ∧ w0 n e ≤ 100000000000000) (hgo : GRo m T (cfR (z0 (18 + 2 * rk))) (z0 (17 + 2 * rk) 1).toNat G) (hG : (a3 = 0 → G 0 (w0 n)) ∧ (a3 = 1 → G (z0 (17 + 2 * rk) 1).toNat (w0 n))) (hn : lr n) (b15n : 15 ≤ n) (wn : wrr n) (mn : 149 ≤ n ∧ n ≤ 157) : wc (d + 3) 28 [.ref 10, .ref n, .ref (17 + 2 * rk), .int (Int32.ofInt a3), .ref 102] (mk z0 w0 (pq x y tx it mt tt ct)) (poI (S_28t n) z0 w0 (E_28t m T G n rk a3 z0 w0 x y tx it mt tt ct)) := by
  have hst : st_ (S_28t n) z0 w0 z0 w0 := st_rf hz hw
  have hcz := rd_R_1 (k := rk) (by omega) hz
  have key : ∀ N : Nat, (∀ (x5 : Int) (z w : mZ), 0 ≤ x5 ∧ x5 ≤ 1782 → st_ (S_28t n) z0 w0 z w → ((a3 = 0 → G x5.toNat (w n)) ∧ (a3 = 1 → G (z0 (17 + 2 * rk) 1 - x5).toNat (w n))) → (∀ e : Nat, e < 18 → 0 ≤ w n e ∧ w n e ≤ 100000000000000) → (x5 ≤ z0 (17 + 2 * rk) 1) → 62 * (1782 - x5) + 59 < (N : Int) → wp_ (d + 2) 28 11 (some .boolean) (3, [(0, .ref 10), (1, .ref n), (2, .ref (17 + 2 * rk)), (3, .int (Int32.ofInt a3)), (4, .ref 102), (5, .int (Int32.ofInt x5))], [], mk z w (pq x y tx it mt tt ct)) (poI (S_28t n) z0 w0 (E_28t m T G n rk a3 z0 w0 x y tx it mt tt ct))) := by
    intro N
    induction N with
    | zero =>
      intro x5 z w
      intros; exfalso; omega
    | succ N ih =>
      have ih0 := ih; clear ih
      intro x5 z w  hx5 hst as1 as2 as3 hM
      refine r_ld (pc' := 5) rfl rfl rfl rfl ?_
      refine r_ld (pc' := 6) rfl rfl rfl rfl ?_
      have hb24 := rd_R_1 (k := rk) (by omega) hz
      refine r_gi (pc' := 9) rfl rfl (sh_R (k := rk) (by omega)) rfl (hst.2.2.1 _ _ (notS_c (by omega) (notS_c (by omega) notS_n))) ?_
      refine r_ige (pc' := 12) rfl rfl ⟨by omega, by omega⟩ ⟨by omega, by omega⟩ (fun hc25 => ?_) (fun hc25 => ?_)
      · skip
        refine r_c0 (pc' := 108) rfl rfl ?_
        exact r_rz rfl (by omega) (po_I hst ⟨by decide, by decide⟩ ⟨rfl, by omega, by omega, (by first | (intro h; exfalso; omega) | (intro _; exact ⟨fun h => by rw [show (z0 (17 + 2 * rk) 1).toNat = x5.toNat by omega]; exact as1.1 h, fun h => by have q := as1.2 h; rw [show (z0 (17 + 2 * rk) 1 - x5).toNat = 0 by omega] at q; exact q, as2⟩))⟩)
      · skip
        refine r_ld (pc' := 13) rfl rfl rfl rfl ?_
        refine r_gr (b := 18 + 2 * rk) (pc' := 16) rfl rfl (sh_R (k := rk) (by omega)) rfl (pp_R (k := rk) (by omega)) ?_
        refine r_ld (pc' := 17) rfl rfl rfl rfl ?_
        refine r_zeq (pc' := 20) rfl rfl ⟨by omega, by omega⟩ (fun hc26 => ?_) (fun hc26 => ?_)
        · skip
          refine r_ld (pc' := 34) rfl rfl rfl rfl ?_
          have hb27 := rd_RF (k := rk) (by omega) hz (i := x5.toNat) (by omega)
          unfold ok_f at hb27
          refine r_ia (pc' := 35) rfl rfl (sh_RF (k := rk) (by omega)) rfl (by omega) (by omega) (hst.2.2.1 _ _ (notS_c (by omega) (notS_c (by omega) notS_n))) ?_
          refine r_st (pc' := 37) (lv' := [(6, _), (0, _), (1, _), (2, _), (3, _), (4, _), (5, _)]) rfl rfl rfl rfl ?_
          refine r_ld (pc' := 39) rfl rfl rfl rfl ?_
          refine r_c0 (pc' := 40) rfl rfl ?_
          refine r_shr (s := 5) (pc' := 41) rfl rfl ⟨by omega, by omega⟩ (by decide) ?_
          refine r_cb (pc' := 43) rfl (by decide) rfl ?_
          refine r_msk (m := 31) (n := 5) (pc' := 44) rfl rfl ⟨by omega, by omega⟩ (by decide) (by decide) ?_
          refine r_st (pc' := 46) (lv' := [(7, _), (6, _), (0, _), (1, _), (2, _), (3, _), (4, _), (5, _)]) rfl rfl rfl rfl ?_
          refine r_ld (pc' := 48) rfl rfl rfl rfl ?_
          refine r_cb (pc' := 50) rfl (by decide) rfl ?_
          refine r_shr (s := 10) (pc' := 51) rfl rfl ⟨by omega, by omega⟩ (by decide) ?_
          refine r_cb (pc' := 53) rfl (by decide) rfl ?_
          refine r_msk (m := 31) (n := 5) (pc' := 54) rfl rfl ⟨by omega, by omega⟩ (by decide) (by decide) ?_
          refine r_st (pc' := 56) (lv' := [(8, _), (7, _), (6, _), (0, _), (1, _), (2, _), (3, _), (4, _), (5, _)]) rfl rfl rfl rfl ?_
          refine r_ld (pc' := 58) rfl rfl rfl rfl ?_
          refine r_cb (pc' := 60) rfl (by decide) rfl ?_
          refine r_shr (s := 15) (pc' := 61) rfl rfl ⟨by omega, by omega⟩ (by decide) ?_
          refine r_cb (pc' := 63) rfl (by decide) rfl ?_
          refine r_msk (m := 31) (n := 5) (pc' := 64) rfl rfl ⟨by omega, by omega⟩ (by decide) (by decide) ?_
          refine r_st (pc' := 66) (lv' := [(9, _), (8, _), (7, _), (6, _), (0, _), (1, _), (2, _), (3, _), (4, _), (5, _)]) rfl rfl rfl rfl ?_
          refine r_ld (pc' := 68) rfl rfl rfl rfl ?_
          refine r_cb (pc' := 70) rfl (by decide) rfl ?_
          refine r_shr (s := 20) (pc' := 71) rfl rfl ⟨by omega, by omega⟩ (by decide) ?_
          refine r_cb (pc' := 73) rfl (by decide) rfl ?_
          refine r_msk (m := 31) (n := 5) (pc' := 74) rfl rfl ⟨by omega, by omega⟩ (by decide) (by decide) ?_
          refine r_st (pc' := 76) (lv' := [(10, _), (9, _), (8, _), (7, _), (6, _), (0, _), (1, _), (2, _), (3, _), (4, _), (5, _)]) rfl rfl rfl rfl ?_
          refine r_ld (pc' := 77) rfl rfl rfl rfl ?_
          refine r_ld (pc' := 78) rfl rfl rfl rfl ?_
          refine r_ld (pc' := 80) rfl rfl rfl rfl ?_
          refine r_cb (pc' := 82) rfl (by decide) rfl ?_
          refine r_msk (m := 31) (n := 5) (pc' := 83) rfl rfl ⟨by omega, by omega⟩ (by decide) (by decide) ?_
          refine r_ld (pc' := 85) rfl rfl rfl rfl ?_
          refine r_ld (pc' := 87) rfl rfl rfl rfl ?_
          refine r_ld (pc' := 89) rfl rfl rfl rfl ?_
          refine r_ld (pc' := 91) rfl rfl rfl rfl ?_
          refine r_ld (pc' := 93) rfl rfl rfl rfl ?_
          refine r_cVI (pc' := 96) rfl rfl rfl rfl rfl sh_10 (m_29t (d := d) n ((z0 (18 + 2 * rk) x5.toNat) % 2 ^ 5) (((z0 (18 + 2 * rk) x5.toNat) / 2 ^ 5) % 2 ^ 5) (((z0 (18 + 2 * rk) x5.toNat) / 2 ^ 15) % 2 ^ 5) (((z0 (18 + 2 * rk) x5.toNat) / 2 ^ 10) % 2 ^ 5) (((z0 (18 + 2 * rk) x5.toNat) / 2 ^ 20) % 2 ^ 5) hst.1 hst.2.1 ⟨by omega, by omega⟩ ⟨by omega, by omega⟩ ⟨by omega, by omega⟩ ⟨by omega, by omega⟩ ⟨by omega, by omega⟩ (by exact as2) hn (by first | omega | assumption) wn (by first | omega | assumption)) (fun v28 z29 w30 p31 h32 hs33 hE34 => ?_)
          have hs35 := st_tr hst hs33 (subS_c (fun _ _ _ _ _ _ => inS_0 (by omega) (by omega) (by omega) (by omega)) (subS_c (fun _ _ _ _ _ _ => inS_s (inS_0 (by omega) (by omega) (by omega) (by omega))) subS_n))
          obtain ⟨rfl, hE34⟩ := hE34
          have hch := hE34
          refine r_zne (pc' := 99) rfl rfl ⟨by omega, by omega⟩ (fun hc36 => ?_) (fun hc36 => ?_)
          · skip
            have hgd : (a3 = 0 ∨ a3 = 1) := by omega
            have hgn : (a3 = 0 → G (x5 + 1).toNat (w30 n)) ∧ (a3 = 1 → G (z0 (17 + 2 * rk) 1 - (x5 + 1)).toNat (w30 n)) := ⟨fun h => by first | (exfalso; omega) | exact GRo_fw hgo (i := x5.toNat) (by omega) (as1.1 h) hch.2.2.1 (by omega), fun h => by first | (exfalso; omega) | exact GRo_bw hgo (i := (z0 (17 + 2 * rk) 1 - (x5 + 1)).toNat) (by omega) (as1.2 h) (by rw [show (z0 (17 + 2 * rk) 1 - (x5 + 1)).toNat = (z0 (17 + 2 * rk) 1 - 1 - x5).toNat by omega]; exact hch.2.2.1) (by omega)⟩
            have hnn : ∀ j, j < 18 → 0 ≤ w30 n j := by rcases hgd with h | h; exact hgo.nn (x5 + 1).toNat _ (by omega) (hgn.1 h); exact hgo.nn (z0 (17 + 2 * rk) 1 - (x5 + 1)).toNat _ (by omega) (hgn.2 h)
            refine r_inc (pc' := 104) (lv' := [(10, _), (9, _), (8, _), (7, _), (6, _), (0, _), (1, _), (2, _), (3, _), (4, _)]) rfl rfl rfl rfl rfl ?_
            refine r_go rfl ?_
            exact w_lv (sub_c rfl (sub_c rfl (sub_c rfl (sub_c rfl (sub_c rfl (sub_c rfl sub_n)))))) rfl (ih0 (x5 + 1) z29 w30 ⟨by omega, by omega⟩ hs35 (by first | exact hgn | exact ⟨fun h => hG.1 h, fun h => by rw [show (z0 (17 + 2 * rk) 1 - 0).toNat = (z0 (17 + 2 * rk) 1).toNat by omega]; exact hG.2 h⟩) (by first | exact hnb | exact nb_fl as2 hch.2.2.1 (hnn _ (by omega)) (hch.2.2.2 (by omega))) (by first | omega | assumption) (by omega))
          · skip
            refine r_c0 (pc' := 100) rfl rfl ?_
            exact r_rz rfl (by omega) (po_I hs35 ⟨by decide, by decide⟩ ⟨rfl, by omega, by omega, (by first | (intro h; exfalso; omega) | (intro _; exact ⟨fun h => by rw [show (z0 (17 + 2 * rk) 1).toNat = x5.toNat by omega]; exact as1.1 h, fun h => by have q := as1.2 h; rw [show (z0 (17 + 2 * rk) 1 - x5).toNat = 0 by omega] at q; exact q, as2⟩))⟩)
        · skip
          refine r_ld (pc' := 21) rfl rfl rfl rfl ?_
          refine r_gi (pc' := 24) rfl rfl (sh_R (k := rk) (by omega)) rfl (hst.2.2.1 _ _ (notS_c (by omega) (notS_c (by omega) notS_n))) ?_
          refine r_c0 (pc' := 25) rfl rfl ?_
          refine r_sub (pc' := 26) rfl rfl ?_
          refine r_ld (pc' := 28) rfl rfl rfl rfl ?_
          refine r_sub (pc' := 29) rfl rfl ?_
          refine r_go rfl ?_
          have hb37 := rd_RF (k := rk) (by omega) hz (i := (((z0 (17 + 2 * rk) 1) - 1) - x5).toNat) (by omega)
          unfold ok_f at hb37
          refine r_ia (pc' := 35) rfl rfl (sh_RF (k := rk) (by omega)) rfl (by omega) (by omega) (hst.2.2.1 _ _ (notS_c (by omega) (notS_c (by omega) notS_n))) ?_
          refine r_st (pc' := 37) (lv' := [(6, _), (0, _), (1, _), (2, _), (3, _), (4, _), (5, _)]) rfl rfl rfl rfl ?_
          refine r_ld (pc' := 39) rfl rfl rfl rfl ?_
          refine r_c0 (pc' := 40) rfl rfl ?_
          refine r_shr (s := 5) (pc' := 41) rfl rfl ⟨by omega, by omega⟩ (by decide) ?_
          refine r_cb (pc' := 43) rfl (by decide) rfl ?_
          refine r_msk (m := 31) (n := 5) (pc' := 44) rfl rfl ⟨by omega, by omega⟩ (by decide) (by decide) ?_
          refine r_st (pc' := 46) (lv' := [(7, _), (6, _), (0, _), (1, _), (2, _), (3, _), (4, _), (5, _)]) rfl rfl rfl rfl ?_
          refine r_ld (pc' := 48) rfl rfl rfl rfl ?_
          refine r_cb (pc' := 50) rfl (by decide) rfl ?_
          refine r_shr (s := 10) (pc' := 51) rfl rfl ⟨by omega, by omega⟩ (by decide) ?_
          refine r_cb (pc' := 53) rfl (by decide) rfl ?_
          refine r_msk (m := 31) (n := 5) (pc' := 54) rfl rfl ⟨by omega, by omega⟩ (by decide) (by decide) ?_
          refine r_st (pc' := 56) (lv' := [(8, _), (7, _), (6, _), (0, _), (1, _), (2, _), (3, _), (4, _), (5, _)]) rfl rfl rfl rfl ?_
          refine r_ld (pc' := 58) rfl rfl rfl rfl ?_
          refine r_cb (pc' := 60) rfl (by decide) rfl ?_
          refine r_shr (s := 15) (pc' := 61) rfl rfl ⟨by omega, by omega⟩ (by decide) ?_
          refine r_cb (pc' := 63) rfl (by decide) rfl ?_
          refine r_msk (m := 31) (n := 5) (pc' := 64) rfl rfl ⟨by omega, by omega⟩ (by decide) (by decide) ?_
          refine r_st (pc' := 66) (lv' := [(9, _), (8, _), (7, _), (6, _), (0, _), (1, _), (2, _), (3, _), (4, _), (5, _)]) rfl rfl rfl rfl ?_
          refine r_ld (pc' := 68) rfl rfl rfl rfl ?_
          refine r_cb (pc' := 70) rfl (by decide) rfl ?_
          refine r_shr (s := 20) (pc' := 71) rfl rfl ⟨by omega, by omega⟩ (by decide) ?_
          refine r_cb (pc' := 73) rfl (by decide) rfl ?_
          refine r_msk (m := 31) (n := 5) (pc' := 74) rfl rfl ⟨by omega, by omega⟩ (by decide) (by decide) ?_
          refine r_st (pc' := 76) (lv' := [(10, _), (9, _), (8, _), (7, _), (6, _), (0, _), (1, _), (2, _), (3, _), (4, _), (5, _)]) rfl rfl rfl rfl ?_
          refine r_ld (pc' := 77) rfl rfl rfl rfl ?_
          refine r_ld (pc' := 78) rfl rfl rfl rfl ?_
          refine r_ld (pc' := 80) rfl rfl rfl rfl ?_
          refine r_cb (pc' := 82) rfl (by decide) rfl ?_
          refine r_msk (m := 31) (n := 5) (pc' := 83) rfl rfl ⟨by omega, by omega⟩ (by decide) (by decide) ?_
          refine r_ld (pc' := 85) rfl rfl rfl rfl ?_
          refine r_ld (pc' := 87) rfl rfl rfl rfl ?_
          refine r_ld (pc' := 89) rfl rfl rfl rfl ?_
          refine r_ld (pc' := 91) rfl rfl rfl rfl ?_
          refine r_ld (pc' := 93) rfl rfl rfl rfl ?_
          refine r_cVI (pc' := 96) rfl rfl rfl rfl rfl sh_10 (m_29t (d := d) n ((z0 (18 + 2 * rk) (((z0 (17 + 2 * rk) 1) - 1) - x5).toNat) % 2 ^ 5) (((z0 (18 + 2 * rk) (((z0 (17 + 2 * rk) 1) - 1) - x5).toNat) / 2 ^ 5) % 2 ^ 5) (((z0 (18 + 2 * rk) (((z0 (17 + 2 * rk) 1) - 1) - x5).toNat) / 2 ^ 15) % 2 ^ 5) (((z0 (18 + 2 * rk) (((z0 (17 + 2 * rk) 1) - 1) - x5).toNat) / 2 ^ 10) % 2 ^ 5) (((z0 (18 + 2 * rk) (((z0 (17 + 2 * rk) 1) - 1) - x5).toNat) / 2 ^ 20) % 2 ^ 5) hst.1 hst.2.1 ⟨by omega, by omega⟩ ⟨by omega, by omega⟩ ⟨by omega, by omega⟩ ⟨by omega, by omega⟩ ⟨by omega, by omega⟩ (by exact as2) hn (by first | omega | assumption) wn (by first | omega | assumption)) (fun v38 z39 w40 p41 h42 hs43 hE44 => ?_)
          have hs45 := st_tr hst hs43 (subS_c (fun _ _ _ _ _ _ => inS_0 (by omega) (by omega) (by omega) (by omega)) (subS_c (fun _ _ _ _ _ _ => inS_s (inS_0 (by omega) (by omega) (by omega) (by omega))) subS_n))
          obtain ⟨rfl, hE44⟩ := hE44
          have hch := hE44
          refine r_zne (pc' := 99) rfl rfl ⟨by omega, by omega⟩ (fun hc46 => ?_) (fun hc46 => ?_)
          · skip
            have hgd : (a3 = 0 ∨ a3 = 1) := by omega
            have hgn : (a3 = 0 → G (x5 + 1).toNat (w40 n)) ∧ (a3 = 1 → G (z0 (17 + 2 * rk) 1 - (x5 + 1)).toNat (w40 n)) := ⟨fun h => by first | (exfalso; omega) | exact GRo_fw hgo (i := x5.toNat) (by omega) (as1.1 h) hch.2.2.1 (by omega), fun h => by first | (exfalso; omega) | exact GRo_bw hgo (i := (z0 (17 + 2 * rk) 1 - (x5 + 1)).toNat) (by omega) (as1.2 h) (by rw [show (z0 (17 + 2 * rk) 1 - (x5 + 1)).toNat = (z0 (17 + 2 * rk) 1 - 1 - x5).toNat by omega]; exact hch.2.2.1) (by omega)⟩
            have hnn : ∀ j, j < 18 → 0 ≤ w40 n j := by rcases hgd with h | h; exact hgo.nn (x5 + 1).toNat _ (by omega) (hgn.1 h); exact hgo.nn (z0 (17 + 2 * rk) 1 - (x5 + 1)).toNat _ (by omega) (hgn.2 h)
            refine r_inc (pc' := 104) (lv' := [(10, _), (9, _), (8, _), (7, _), (6, _), (0, _), (1, _), (2, _), (3, _), (4, _)]) rfl rfl rfl rfl rfl ?_
            refine r_go rfl ?_
            exact w_lv (sub_c rfl (sub_c rfl (sub_c rfl (sub_c rfl (sub_c rfl (sub_c rfl sub_n)))))) rfl (ih0 (x5 + 1) z39 w40 ⟨by omega, by omega⟩ hs45 (by first | exact hgn | exact ⟨fun h => hG.1 h, fun h => by rw [show (z0 (17 + 2 * rk) 1 - 0).toNat = (z0 (17 + 2 * rk) 1).toNat by omega]; exact hG.2 h⟩) (by first | exact hnb | exact nb_fl as2 hch.2.2.1 (hnn _ (by omega)) (hch.2.2.2 (by omega))) (by first | omega | assumption) (by omega))
          · skip
            refine r_c0 (pc' := 100) rfl rfl ?_
            exact r_rz rfl (by omega) (po_I hs45 ⟨by decide, by decide⟩ ⟨rfl, by omega, by omega, (by first | (intro h; exfalso; omega) | (intro _; exact ⟨fun h => by rw [show (z0 (17 + 2 * rk) 1).toNat = x5.toNat by omega]; exact as1.1 h, fun h => by have q := as1.2 h; rw [show (z0 (17 + 2 * rk) 1 - x5).toNat = 0 by omega] at q; exact q, as2⟩))⟩)
  refine w_m rfl rfl ?_
  refine r_c0 (pc' := 1) rfl rfl ?_
  refine r_st (pc' := 3) (lv' := [(5, _), (0, _), (1, _), (2, _), (3, _), (4, _)]) rfl rfl rfl rfl ?_
  exact w_lv (sub_c rfl (sub_c rfl (sub_c rfl (sub_c rfl (sub_c rfl (sub_c rfl sub_n)))))) rfl ((key ((62 * (1782 - 0) + 59 : Int).toNat + 1)) 0 z0 w0 ⟨by omega, by omega⟩ hst (by first | exact hgn | exact ⟨fun h => hG.1 h, fun h => by rw [show (z0 (17 + 2 * rk) 1 - 0).toNat = (z0 (17 + 2 * rk) 1).toNat by omega]; exact hG.2 h⟩) (by first | exact hnb | exact nb_fl as2 hch.2.2.1 (hnn _ (by omega)) (hch.2.2.2 (by omega))) (by first | omega | assumption) (by omega))
