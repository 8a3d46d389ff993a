/-! methods, printed by wip/tools/vcg.py -/
/-- Mover change -/
abbrev S_29e (n : Nat) : mS := [(n, n, 0, 17)]
abbrev E_29e (n : Nat) (a2 : Int) (a3 : Int) (a4 : Int) (a5 : Int) (a6 : Int) (z0 w0 : mZ) (x y tx it mt tt ct : Option Nat) : Int → mZ → mZ → mP → Prop := fun v z w p => p = (pq x y tx it mt tt ct) ∧ 0 ≤ v ∧ v ≤ 1 ∧ (w n = fl a2.toNat a3.toNat a5.toNat a4.toNat a6.toNat (w0 n) ∧ (v = 1 → w n a2.toNat ≤ 100000000000000) ∧ (v = 0 → 100000000000000 < w n a2.toNat))
theorem m_29e {d : Nat} {z0 w0 : mZ} {x y tx it mt tt ct : Option Nat} (n : Nat) (a2 : Int) (a3 : Int) (a4 : Int) (a5 : Int) (a6 : Int) (hz : rz z0) (hw : rw_ w0) (ha2 : 0 ≤ a2 ∧ a2 ≤ 17) (ha3 : 0 ≤ a3 ∧ a3 ≤ 17) (ha4 : 0 ≤ a4 ∧ a4 ≤ 17) (ha5 : 0 ≤ a5 ∧ a5 ≤ 17) (ha6 : 0 ≤ a6 ∧ a6 ≤ 17) (hnb : ∀ e : Nat, e < 18 → 0 ≤ w0 n e ∧ w0 n e ≤ 100000000000000) (hn : lr n) (b15n : 15 ≤ n) (wn : wrr n) (mn : 149 ≤ n ∧ n ≤ 157) : wc (d + 2) 29 [.ref 10, .ref n, .int (Int32.ofInt a2), .int (Int32.ofInt a3), .int (Int32.ofInt a4), .int (Int32.ofInt a5), .int (Int32.ofInt a6), .null] (mk z0 w0 (pq x y tx it mt tt ct)) (poI (S_29e n) z0 w0 (E_29e n a2 a3 a4 a5 a6 z0 w0 x y tx it mt tt ct)) := by
  have hst : st_ (S_29e n) z0 w0 z0 w0 := st_rf hz hw
  have hn2 := hnb a2.toNat (by omega)
  have hn3 := hnb a3.toNat (by omega)
  have hn4 := hnb a4.toNat (by omega)
  have hn5 := hnb a5.toNat (by omega)
  have hn6 := hnb a6.toNat (by omega)
  have key : ∀ N : Nat, (∀ (z w : mZ), st_ (S_29e n) z0 w0 z w → (w n = fl a2.toNat a3.toNat a5.toNat a4.toNat a6.toNat (w0 n)) → 9 < (N : Int) → wp_ (d + 1) 29 12 (some .boolean) (75, [(1, .ref n), (2, .int (Int32.ofInt a2))], [], mk z w (pq x y tx it mt tt ct)) (poI (S_29e n) z0 w0 (E_29e n a2 a3 a4 a5 a6 z0 w0 x y tx it mt tt ct))) := by
    intro N
    induction N with
    | zero =>
      intro  z w
      intros; exfalso; omega
    | succ N ih =>
      have ih0 := ih; clear ih
      intro  z w  hst as1 hM
      refine r_ld (pc' := 76) rfl rfl rfl rfl ?_
      refine r_ld (pc' := 77) rfl rfl rfl rfl ?_
      have hb28 := lr_rd hn hst.2.1 (i := a2.toNat) (by omega)
      refine r_la (pc' := 78) rfl rfl hn.1 rfl (by omega) (by omega) rfl ?_
      refine r_al (pc' := 81) rfl rfl rfl rfl ?_
      refine r_lgt (pc' := 85) rfl rfl rfl ⟨by omega, by omega⟩ ⟨by decide, by decide⟩ (fun hc29 => ?_) (fun hc29 => ?_)
      · skip
        refine r_c0 (pc' := 90) rfl rfl ?_
        exact r_rz rfl (by omega) (po_I hst ⟨by decide, by decide⟩ ⟨rfl, by omega, by omega, (by exact ⟨as1, fun h => by omega, fun h => by omega⟩)⟩)
      · skip
        refine r_c0 (pc' := 86) rfl rfl ?_
        refine r_go rfl ?_
        exact r_rz rfl (by omega) (po_I hst ⟨by decide, by decide⟩ ⟨rfl, by omega, by omega, (by exact ⟨as1, fun h => by omega, fun h => by omega⟩)⟩)
  refine w_m rfl rfl ?_
  refine r_ld (pc' := 1) rfl rfl rfl rfl ?_
  refine r_ld (pc' := 2) rfl rfl rfl rfl ?_
  have hb30 := lr_rd hn hw (i := a3.toNat) (by omega)
  refine r_la (pc' := 3) rfl rfl hn.1 rfl (by omega) (by omega) rfl ?_
  refine r_ld (pc' := 4) rfl rfl rfl rfl ?_
  refine r_ld (pc' := 6) rfl rfl rfl rfl ?_
  have hb31 := lr_rd hn hw (i := a4.toNat) (by omega)
  refine r_la (pc' := 7) rfl rfl hn.1 rfl (by omega) (by omega) rfl ?_
  refine r_ladd (pc' := 8) rfl rfl ?_
  refine w_hxl (fun v32 h33 h34 => ?_)
  refine r_st (pc' := 10) (lv' := [(8, _), (0, _), (1, _), (2, _), (3, _), (4, _), (5, _), (6, _), (7, _)]) rfl rfl rfl rfl ?_
  refine r_ld (pc' := 11) rfl rfl rfl rfl ?_
  refine r_ld (pc' := 13) rfl rfl rfl rfl ?_
  have hb35 := lr_rd hn hw (i := a5.toNat) (by omega)
  refine r_la (pc' := 14) rfl rfl hn.1 rfl (by omega) (by omega) rfl ?_
  refine r_ld (pc' := 15) rfl rfl rfl rfl ?_
  refine r_ld (pc' := 17) rfl rfl rfl rfl ?_
  have hb36 := lr_rd hn hw (i := a6.toNat) (by omega)
  refine r_la (pc' := 18) rfl rfl hn.1 rfl (by omega) (by omega) rfl ?_
  refine r_ladd (pc' := 19) rfl rfl ?_
  refine w_hxl (fun v37 h38 h39 => ?_)
  refine r_st (pc' := 21) (lv' := [(10, _), (8, _), (0, _), (1, _), (2, _), (3, _), (4, _), (5, _), (6, _), (7, _)]) rfl rfl rfl rfl ?_
  refine r_ld (pc' := 22) rfl rfl rfl rfl ?_
  refine r_ld (pc' := 23) rfl rfl rfl rfl ?_
  refine r_ld (pc' := 25) rfl rfl rfl rfl ?_
  refine r_ld (pc' := 27) rfl rfl rfl rfl ?_
  refine r_cSL (pc' := 30) rfl rfl rfl rfl rfl (m_262 (d := d) v32 v37 hst.1 hst.2.1 ⟨by omega, by omega⟩ ⟨by omega, by omega⟩) (fun v40 z41 w42 p43 h44 hs45 hE46 => ?_)
  obtain ⟨rfl, rfl, rfl, hE46⟩ := hE46
  refine r_ld (pc' := 31) rfl rfl rfl rfl ?_
  refine r_ld (pc' := 32) rfl rfl rfl rfl ?_
  have hb48 := lr_rd hn hw (i := a2.toNat) (by omega)
  refine r_la (pc' := 33) rfl rfl hn.1 rfl (by omega) (by omega) rfl ?_
  refine r_lsub (pc' := 34) rfl rfl ?_
  refine w_hxl (fun v49 h50 h51 => ?_)
  refine r_ls (pc' := 35) rfl rfl hn.1 rfl (by omega) (by omega) hst (inS_0 (by omega) (by omega) (by omega) (by omega)) (wrr_w wn ⟨by omega, by omega⟩) (fun w52 hq53 hs54 => ?_)
  have hqw := hq53
  refine r_ld (pc' := 37) rfl rfl rfl rfl ?_
  refine r_nul_t rfl ?_
  exact w_lv (sub_c rfl (sub_c rfl sub_n)) rfl ((key ((9 : Int).toNat + 1)) z0 w52 hs54 (by funext j; rw [show w52 n j = w52 n j from rfl, hqw, mu_sf]; dsimp only; unfold fl; by_cases c : j = a2.toNat; (rw [if_pos c, if_pos c]; omega); (rw [if_neg c, if_neg c])) (by omega))
/-- Mover passFlips -/
abbrev S_28e (n : Nat) : mS := [(n, n, 0, 17)]
abbrev E_28e (m : Nat) (T : Nat → Nat) (G : Nat → (Nat → Int) → Prop) (n : Nat) (rk : Nat) (a3 : Int) (z0 w0 : mZ) (x y tx it mt tt ct : Option Nat) : Int → mZ → mZ → mP → Prop := fun v z w p => p = (pq x y tx it mt tt ct) ∧ 0 ≤ v ∧ v ≤ 1 ∧ (((v = 1 → (a3 = 0 → G (z0 (17 + 2 * rk) 1).toNat (w n)) ∧ (a3 = 1 → G 0 (w n)) ∧ ∀ e : Nat, e < 18 → 0 ≤ w n e ∧ w n e ≤ 100000000000000)) ∧ (v = 1 → (a3 = 0 → gfw (cfR (z0 (18 + 2 * rk))) (z0 (17 + 2 * rk) 1).toNat (w0 n) = some (w n)) ∧ (a3 = 1 → gbw (cfR (z0 (18 + 2 * rk))) (z0 (17 + 2 * rk) 1).toNat (z0 (17 + 2 * rk) 1).toNat (w0 n) = some (w n))) ∧ (v = 0 → (a3 = 0 → gfw (cfR (z0 (18 + 2 * rk))) (z0 (17 + 2 * rk) 1).toNat (w0 n) = none) ∧ (a3 = 1 → gbw (cfR (z0 (18 + 2 * rk))) (z0 (17 + 2 * rk) 1).toNat (z0 (17 + 2 * rk) 1).toNat (w0 n) = none)))
theorem m_28e {d : Nat} {z0 w0 : mZ} {x y tx it mt tt ct : Option Nat} (m : Nat) (T : Nat → Nat) (G : Nat → (Nat → Int) → Prop) (n : Nat) (rk : Nat) (a3 : Int) (hz : rz z0) (hw : rw_ w0) (ha3 : 0 ≤ a3 ∧ a3 ≤ 1) (hrk : rk < 8) (hnb : ∀ e : Nat, e < 18 → 0 ≤ w0 n e ∧ w0 n e ≤ 100000000000000) (hgo : GRo m T (cfR (z0 (18 + 2 * rk))) (z0 (17 + 2 * rk) 1).toNat G) (hG : (a3 = 0 → G 0 (w0 n)) ∧ (a3 = 1 → G (z0 (17 + 2 * rk) 1).toNat (w0 n))) (hn : lr n) (b15n : 15 ≤ n) (wn : wrr n) (mn : 149 ≤ n ∧ n ≤ 157) : wc (d + 3) 28 [.ref 10, .ref n, .ref (17 + 2 * rk), .int (Int32.ofInt a3), .null] (mk z0 w0 (pq x y tx it mt tt ct)) (poI (S_28e n) z0 w0 (E_28e m T G n rk a3 z0 w0 x y tx it mt tt ct)) := by
  have hst : st_ (S_28e n) z0 w0 z0 w0 := st_rf hz hw
  have hcz := rd_R_1 (k := rk) (by omega) hz
  have key : ∀ N : Nat, (∀ (x5 : Int) (z w : mZ), 0 ≤ x5 ∧ x5 ≤ 1782 → st_ (S_28e n) z0 w0 z w → ((a3 = 0 → G x5.toNat (w n)) ∧ (a3 = 1 → G (z0 (17 + 2 * rk) 1 - x5).toNat (w n))) → (∀ e : Nat, e < 18 → 0 ≤ w n e ∧ w n e ≤ 100000000000000) → (x5 ≤ z0 (17 + 2 * rk) 1) → ((a3 = 0 → gfw (cfR (z0 (18 + 2 * rk))) x5.toNat (w0 n) = some (w n)) ∧ (a3 = 1 → gbw (cfR (z0 (18 + 2 * rk))) (z0 (17 + 2 * rk) 1).toNat x5.toNat (w0 n) = some (w n))) → 62 * (1782 - x5) + 59 < (N : Int) → wp_ (d + 2) 28 11 (some .boolean) (3, [(0, .ref 10), (1, .ref n), (2, .ref (17 + 2 * rk)), (3, .int (Int32.ofInt a3)), (4, .null), (5, .int (Int32.ofInt x5))], [], mk z w (pq x y tx it mt tt ct)) (poI (S_28e n) z0 w0 (E_28e m T G n rk a3 z0 w0 x y tx it mt tt ct))) := by
    intro N
    induction N with
    | zero =>
      intro x5 z w
      intros; exfalso; omega
    | succ N ih =>
      have ih0 := ih; clear ih
      intro x5 z w  hx5 hst as1 as2 as3 as4 hM
      refine r_ld (pc' := 5) rfl rfl rfl rfl ?_
      refine r_ld (pc' := 6) rfl rfl rfl rfl ?_
      have hb24 := rd_R_1 (k := rk) (by omega) hz
      refine r_gi (pc' := 9) rfl rfl (sh_R (k := rk) (by omega)) rfl (hst.2.2.1 _ _ (notS_c (by omega) notS_n)) ?_
      refine r_ige (pc' := 12) rfl rfl ⟨by omega, by omega⟩ ⟨by omega, by omega⟩ (fun hc25 => ?_) (fun hc25 => ?_)
      · skip
        refine r_c0 (pc' := 108) rfl rfl ?_
        exact r_rz rfl (by omega) (po_I hst ⟨by decide, by decide⟩ ⟨rfl, by omega, by omega, (by refine ⟨?_, ?_⟩; (first | (intro h; exfalso; omega) | (intro _; exact ⟨fun h => by rw [show (z0 (17 + 2 * rk) 1).toNat = x5.toNat by omega]; exact as1.1 h, fun h => by have q := as1.2 h; rw [show (z0 (17 + 2 * rk) 1 - x5).toNat = 0 by omega] at q; exact q, as2⟩)); (first | exact ⟨fun h => by exfalso; omega, fun _ => hg4.2 (by omega)⟩ | exact ⟨fun _ => ⟨fun h => by have q := as4.1 h; rw [show x5.toNat = (z0 (17 + 2 * rk) 1).toNat by omega] at q; exact q, fun h => by have q := as4.2 h; rw [show x5.toNat = (z0 (17 + 2 * rk) 1).toNat by omega] at q; exact q⟩, fun h => by exfalso; omega⟩))⟩)
      · skip
        refine r_ld (pc' := 13) rfl rfl rfl rfl ?_
        refine r_gr (b := 18 + 2 * rk) (pc' := 16) rfl rfl (sh_R (k := rk) (by omega)) rfl (pp_R (k := rk) (by omega)) ?_
        refine r_ld (pc' := 17) rfl rfl rfl rfl ?_
        refine r_zeq (pc' := 20) rfl rfl ⟨by omega, by omega⟩ (fun hc26 => ?_) (fun hc26 => ?_)
        · skip
          refine r_ld (pc' := 34) rfl rfl rfl rfl ?_
          have hb27 := rd_RF (k := rk) (by omega) hz (i := x5.toNat) (by omega)
          unfold ok_f at hb27
          refine r_ia (pc' := 35) rfl rfl (sh_RF (k := rk) (by omega)) rfl (by omega) (by omega) (hst.2.2.1 _ _ (notS_c (by omega) notS_n)) ?_
          refine r_st (pc' := 37) (lv' := [(6, _), (0, _), (1, _), (2, _), (3, _), (4, _), (5, _)]) rfl rfl rfl rfl ?_
          refine r_ld (pc' := 39) rfl rfl rfl rfl ?_
          refine r_c0 (pc' := 40) rfl rfl ?_
          refine r_shr (s := 5) (pc' := 41) rfl rfl ⟨by omega, by omega⟩ (by decide) ?_
          refine r_cb (pc' := 43) rfl (by decide) rfl ?_
          refine r_msk (m := 31) (n := 5) (pc' := 44) rfl rfl ⟨by omega, by omega⟩ (by decide) (by decide) ?_
          refine r_st (pc' := 46) (lv' := [(7, _), (6, _), (0, _), (1, _), (2, _), (3, _), (4, _), (5, _)]) rfl rfl rfl rfl ?_
          refine r_ld (pc' := 48) rfl rfl rfl rfl ?_
          refine r_cb (pc' := 50) rfl (by decide) rfl ?_
          refine r_shr (s := 10) (pc' := 51) rfl rfl ⟨by omega, by omega⟩ (by decide) ?_
          refine r_cb (pc' := 53) rfl (by decide) rfl ?_
          refine r_msk (m := 31) (n := 5) (pc' := 54) rfl rfl ⟨by omega, by omega⟩ (by decide) (by decide) ?_
          refine r_st (pc' := 56) (lv' := [(8, _), (7, _), (6, _), (0, _), (1, _), (2, _), (3, _), (4, _), (5, _)]) rfl rfl rfl rfl ?_
          refine r_ld (pc' := 58) rfl rfl rfl rfl ?_
          refine r_cb (pc' := 60) rfl (by decide) rfl ?_
          refine r_shr (s := 15) (pc' := 61) rfl rfl ⟨by omega, by omega⟩ (by decide) ?_
          refine r_cb (pc' := 63) rfl (by decide) rfl ?_
          refine r_msk (m := 31) (n := 5) (pc' := 64) rfl rfl ⟨by omega, by omega⟩ (by decide) (by decide) ?_
          refine r_st (pc' := 66) (lv' := [(9, _), (8, _), (7, _), (6, _), (0, _), (1, _), (2, _), (3, _), (4, _), (5, _)]) rfl rfl rfl rfl ?_
          refine r_ld (pc' := 68) rfl rfl rfl rfl ?_
          refine r_cb (pc' := 70) rfl (by decide) rfl ?_
          refine r_shr (s := 20) (pc' := 71) rfl rfl ⟨by omega, by omega⟩ (by decide) ?_
          refine r_cb (pc' := 73) rfl (by decide) rfl ?_
          refine r_msk (m := 31) (n := 5) (pc' := 74) rfl rfl ⟨by omega, by omega⟩ (by decide) (by decide) ?_
          refine r_st (pc' := 76) (lv' := [(10, _), (9, _), (8, _), (7, _), (6, _), (0, _), (1, _), (2, _), (3, _), (4, _), (5, _)]) rfl rfl rfl rfl ?_
          refine r_ld (pc' := 77) rfl rfl rfl rfl ?_
          refine r_ld (pc' := 78) rfl rfl rfl rfl ?_
          refine r_ld (pc' := 80) rfl rfl rfl rfl ?_
          refine r_cb (pc' := 82) rfl (by decide) rfl ?_
          refine r_msk (m := 31) (n := 5) (pc' := 83) rfl rfl ⟨by omega, by omega⟩ (by decide) (by decide) ?_
          refine r_ld (pc' := 85) rfl rfl rfl rfl ?_
          refine r_ld (pc' := 87) rfl rfl rfl rfl ?_
          refine r_ld (pc' := 89) rfl rfl rfl rfl ?_
          refine r_ld (pc' := 91) rfl rfl rfl rfl ?_
          refine r_ld (pc' := 93) rfl rfl rfl rfl ?_
          refine r_cVI (pc' := 96) rfl rfl rfl rfl rfl sh_10 (m_29e (d := d) n ((z0 (18 + 2 * rk) x5.toNat) % 2 ^ 5) (((z0 (18 + 2 * rk) x5.toNat) / 2 ^ 5) % 2 ^ 5) (((z0 (18 + 2 * rk) x5.toNat) / 2 ^ 15) % 2 ^ 5) (((z0 (18 + 2 * rk) x5.toNat) / 2 ^ 10) % 2 ^ 5) (((z0 (18 + 2 * rk) x5.toNat) / 2 ^ 20) % 2 ^ 5) hst.1 hst.2.1 ⟨by omega, by omega⟩ ⟨by omega, by omega⟩ ⟨by omega, by omega⟩ ⟨by omega, by omega⟩ ⟨by omega, by omega⟩ (by exact as2) hn (by first | omega | assumption) wn (by first | omega | assumption)) (fun v28 z29 w30 p31 h32 hs33 hE34 => ?_)
          have hs35 := st_tr hst hs33 (subS_c (fun _ _ _ _ _ _ => inS_0 (by omega) (by omega) (by omega) (by omega)) subS_n)
          obtain ⟨rfl, hE34⟩ := hE34
          have hch := hE34
          have hg4 : (v28 = 1 → (a3 = 0 → gfw (cfR (z0 (18 + 2 * rk))) (x5 + 1).toNat (w0 n) = some (w30 n)) ∧ (a3 = 1 → gbw (cfR (z0 (18 + 2 * rk))) (z0 (17 + 2 * rk) 1).toNat (x5 + 1).toNat (w0 n) = some (w30 n))) ∧ (v28 = 0 → (a3 = 0 → gfw (cfR (z0 (18 + 2 * rk))) (z0 (17 + 2 * rk) 1).toNat (w0 n) = none) ∧ (a3 = 1 → gbw (cfR (z0 (18 + 2 * rk))) (z0 (17 + 2 * rk) 1).toNat (z0 (17 + 2 * rk) 1).toNat (w0 n) = none)) := ⟨fun h1 => ⟨fun h => by first | (exfalso; omega) | exact gfw_R (i := x5.toNat) (as4.1 h) hch.2.2.1 (hch.2.2.2.1 h1) (by omega), fun h => by first | (exfalso; omega) | exact gbw_R (i := (z0 (17 + 2 * rk) 1 - 1 - x5).toNat) (as4.2 h) (by omega) hch.2.2.1 (hch.2.2.2.1 h1) (by omega)⟩, fun h1 => ⟨fun h => by first | (exfalso; omega) | exact gfw_RX (i := x5.toNat) (as4.1 h) hch.2.2.1 (hch.2.2.2.2 h1) (by omega), fun h => by first | (exfalso; omega) | exact gbw_RX (i := (z0 (17 + 2 * rk) 1 - 1 - x5).toNat) (as4.2 h) (by omega) hch.2.2.1 (hch.2.2.2.2 h1) (by omega)⟩⟩
          refine r_zne (pc' := 99) rfl rfl ⟨by omega, by omega⟩ (fun hc36 => ?_) (fun hc36 => ?_)
          · skip
            have hgd : (a3 = 0 ∨ a3 = 1) := by omega
            have hgn : (a3 = 0 → G (x5 + 1).toNat (w30 n)) ∧ (a3 = 1 → G (z0 (17 + 2 * rk) 1 - (x5 + 1)).toNat (w30 n)) := ⟨fun h => by first | (exfalso; omega) | exact GRo_fw hgo (i := x5.toNat) (by omega) (as1.1 h) hch.2.2.1 (by omega), fun h => by first | (exfalso; omega) | exact GRo_bw hgo (i := (z0 (17 + 2 * rk) 1 - (x5 + 1)).toNat) (by omega) (as1.2 h) (by rw [show (z0 (17 + 2 * rk) 1 - (x5 + 1)).toNat = (z0 (17 + 2 * rk) 1 - 1 - x5).toNat by omega]; exact hch.2.2.1) (by omega)⟩
            have hnn : ∀ j, j < 18 → 0 ≤ w30 n j := by rcases hgd with h | h; exact hgo.nn (x5 + 1).toNat _ (by omega) (hgn.1 h); exact hgo.nn (z0 (17 + 2 * rk) 1 - (x5 + 1)).toNat _ (by omega) (hgn.2 h)
            refine r_inc (pc' := 104) (lv' := [(10, _), (9, _), (8, _), (7, _), (6, _), (0, _), (1, _), (2, _), (3, _), (4, _)]) rfl rfl rfl rfl rfl ?_
            refine r_go rfl ?_
            exact w_lv (sub_c rfl (sub_c rfl (sub_c rfl (sub_c rfl (sub_c rfl (sub_c rfl sub_n)))))) rfl (ih0 (x5 + 1) z29 w30 ⟨by omega, by omega⟩ hs35 (by first | exact hgn | exact ⟨fun h => hG.1 h, fun h => by rw [show (z0 (17 + 2 * rk) 1 - 0).toNat = (z0 (17 + 2 * rk) 1).toNat by omega]; exact hG.2 h⟩) (by first | exact hnb | exact nb_fl as2 hch.2.2.1 (hnn _ (by omega)) (hch.2.2.2.1 (by omega))) (by first | omega | assumption) (by first | exact hg4.1 (by omega) | exact ⟨fun _ => rfl, fun _ => rfl⟩) (by omega))
          · skip
            refine r_c0 (pc' := 100) rfl rfl ?_
            exact r_rz rfl (by omega) (po_I hs35 ⟨by decide, by decide⟩ ⟨rfl, by omega, by omega, (by refine ⟨?_, ?_⟩; (first | (intro h; exfalso; omega) | (intro _; exact ⟨fun h => by rw [show (z0 (17 + 2 * rk) 1).toNat = x5.toNat by omega]; exact as1.1 h, fun h => by have q := as1.2 h; rw [show (z0 (17 + 2 * rk) 1 - x5).toNat = 0 by omega] at q; exact q, as2⟩)); (first | exact ⟨fun h => by exfalso; omega, fun _ => hg4.2 (by omega)⟩ | exact ⟨fun _ => ⟨fun h => by have q := as4.1 h; rw [show x5.toNat = (z0 (17 + 2 * rk) 1).toNat by omega] at q; exact q, fun h => by have q := as4.2 h; rw [show x5.toNat = (z0 (17 + 2 * rk) 1).toNat by omega] at q; exact q⟩, fun h => by exfalso; omega⟩))⟩)
        · skip
          refine r_ld (pc' := 21) rfl rfl rfl rfl ?_
          refine r_gi (pc' := 24) rfl rfl (sh_R (k := rk) (by omega)) rfl (hst.2.2.1 _ _ (notS_c (by omega) notS_n)) ?_
          refine r_c0 (pc' := 25) rfl rfl ?_
          refine r_sub (pc' := 26) rfl rfl ?_
          refine r_ld (pc' := 28) rfl rfl rfl rfl ?_
          refine r_sub (pc' := 29) rfl rfl ?_
          refine r_go rfl ?_
          have hb37 := rd_RF (k := rk) (by omega) hz (i := (((z0 (17 + 2 * rk) 1) - 1) - x5).toNat) (by omega)
          unfold ok_f at hb37
          refine r_ia (pc' := 35) rfl rfl (sh_RF (k := rk) (by omega)) rfl (by omega) (by omega) (hst.2.2.1 _ _ (notS_c (by omega) notS_n)) ?_
          refine r_st (pc' := 37) (lv' := [(6, _), (0, _), (1, _), (2, _), (3, _), (4, _), (5, _)]) rfl rfl rfl rfl ?_
          refine r_ld (pc' := 39) rfl rfl rfl rfl ?_
          refine r_c0 (pc' := 40) rfl rfl ?_
          refine r_shr (s := 5) (pc' := 41) rfl rfl ⟨by omega, by omega⟩ (by decide) ?_
          refine r_cb (pc' := 43) rfl (by decide) rfl ?_
          refine r_msk (m := 31) (n := 5) (pc' := 44) rfl rfl ⟨by omega, by omega⟩ (by decide) (by decide) ?_
          refine r_st (pc' := 46) (lv' := [(7, _), (6, _), (0, _), (1, _), (2, _), (3, _), (4, _), (5, _)]) rfl rfl rfl rfl ?_
          refine r_ld (pc' := 48) rfl rfl rfl rfl ?_
          refine r_cb (pc' := 50) rfl (by decide) rfl ?_
          refine r_shr (s := 10) (pc' := 51) rfl rfl ⟨by omega, by omega⟩ (by decide) ?_
          refine r_cb (pc' := 53) rfl (by decide) rfl ?_
          refine r_msk (m := 31) (n := 5) (pc' := 54) rfl rfl ⟨by omega, by omega⟩ (by decide) (by decide) ?_
          refine r_st (pc' := 56) (lv' := [(8, _), (7, _), (6, _), (0, _), (1, _), (2, _), (3, _), (4, _), (5, _)]) rfl rfl rfl rfl ?_
          refine r_ld (pc' := 58) rfl rfl rfl rfl ?_
          refine r_cb (pc' := 60) rfl (by decide) rfl ?_
          refine r_shr (s := 15) (pc' := 61) rfl rfl ⟨by omega, by omega⟩ (by decide) ?_
          refine r_cb (pc' := 63) rfl (by decide) rfl ?_
          refine r_msk (m := 31) (n := 5) (pc' := 64) rfl rfl ⟨by omega, by omega⟩ (by decide) (by decide) ?_
          refine r_st (pc' := 66) (lv' := [(9, _), (8, _), (7, _), (6, _), (0, _), (1, _), (2, _), (3, _), (4, _), (5, _)]) rfl rfl rfl rfl ?_
          refine r_ld (pc' := 68) rfl rfl rfl rfl ?_
          refine r_cb (pc' := 70) rfl (by decide) rfl ?_
          refine r_shr (s := 20) (pc' := 71) rfl rfl ⟨by omega, by omega⟩ (by decide) ?_
          refine r_cb (pc' := 73) rfl (by decide) rfl ?_
          refine r_msk (m := 31) (n := 5) (pc' := 74) rfl rfl ⟨by omega, by omega⟩ (by decide) (by decide) ?_
          refine r_st (pc' := 76) (lv' := [(10, _), (9, _), (8, _), (7, _), (6, _), (0, _), (1, _), (2, _), (3, _), (4, _), (5, _)]) rfl rfl rfl rfl ?_
          refine r_ld (pc' := 77) rfl rfl rfl rfl ?_
          refine r_ld (pc' := 78) rfl rfl rfl rfl ?_
          refine r_ld (pc' := 80) rfl rfl rfl rfl ?_
          refine r_cb (pc' := 82) rfl (by decide) rfl ?_
          refine r_msk (m := 31) (n := 5) (pc' := 83) rfl rfl ⟨by omega, by omega⟩ (by decide) (by decide) ?_
          refine r_ld (pc' := 85) rfl rfl rfl rfl ?_
          refine r_ld (pc' := 87) rfl rfl rfl rfl ?_
          refine r_ld (pc' := 89) rfl rfl rfl rfl ?_
          refine r_ld (pc' := 91) rfl rfl rfl rfl ?_
          refine r_ld (pc' := 93) rfl rfl rfl rfl ?_
          refine r_cVI (pc' := 96) rfl rfl rfl rfl rfl sh_10 (m_29e (d := d) n ((z0 (18 + 2 * rk) (((z0 (17 + 2 * rk) 1) - 1) - x5).toNat) % 2 ^ 5) (((z0 (18 + 2 * rk) (((z0 (17 + 2 * rk) 1) - 1) - x5).toNat) / 2 ^ 5) % 2 ^ 5) (((z0 (18 + 2 * rk) (((z0 (17 + 2 * rk) 1) - 1) - x5).toNat) / 2 ^ 15) % 2 ^ 5) (((z0 (18 + 2 * rk) (((z0 (17 + 2 * rk) 1) - 1) - x5).toNat) / 2 ^ 10) % 2 ^ 5) (((z0 (18 + 2 * rk) (((z0 (17 + 2 * rk) 1) - 1) - x5).toNat) / 2 ^ 20) % 2 ^ 5) hst.1 hst.2.1 ⟨by omega, by omega⟩ ⟨by omega, by omega⟩ ⟨by omega, by omega⟩ ⟨by omega, by omega⟩ ⟨by omega, by omega⟩ (by exact as2) hn (by first | omega | assumption) wn (by first | omega | assumption)) (fun v38 z39 w40 p41 h42 hs43 hE44 => ?_)
          have hs45 := st_tr hst hs43 (subS_c (fun _ _ _ _ _ _ => inS_0 (by omega) (by omega) (by omega) (by omega)) subS_n)
          obtain ⟨rfl, hE44⟩ := hE44
          have hch := hE44
          have hg4 : (v38 = 1 → (a3 = 0 → gfw (cfR (z0 (18 + 2 * rk))) (x5 + 1).toNat (w0 n) = some (w40 n)) ∧ (a3 = 1 → gbw (cfR (z0 (18 + 2 * rk))) (z0 (17 + 2 * rk) 1).toNat (x5 + 1).toNat (w0 n) = some (w40 n))) ∧ (v38 = 0 → (a3 = 0 → gfw (cfR (z0 (18 + 2 * rk))) (z0 (17 + 2 * rk) 1).toNat (w0 n) = none) ∧ (a3 = 1 → gbw (cfR (z0 (18 + 2 * rk))) (z0 (17 + 2 * rk) 1).toNat (z0 (17 + 2 * rk) 1).toNat (w0 n) = none)) := ⟨fun h1 => ⟨fun h => by first | (exfalso; omega) | exact gfw_R (i := x5.toNat) (as4.1 h) hch.2.2.1 (hch.2.2.2.1 h1) (by omega), fun h => by first | (exfalso; omega) | exact gbw_R (i := (z0 (17 + 2 * rk) 1 - 1 - x5).toNat) (as4.2 h) (by omega) hch.2.2.1 (hch.2.2.2.1 h1) (by omega)⟩, fun h1 => ⟨fun h => by first | (exfalso; omega) | exact gfw_RX (i := x5.toNat) (as4.1 h) hch.2.2.1 (hch.2.2.2.2 h1) (by omega), fun h => by first | (exfalso; omega) | exact gbw_RX (i := (z0 (17 + 2 * rk) 1 - 1 - x5).toNat) (as4.2 h) (by omega) hch.2.2.1 (hch.2.2.2.2 h1) (by omega)⟩⟩
          refine r_zne (pc' := 99) rfl rfl ⟨by omega, by omega⟩ (fun hc46 => ?_) (fun hc46 => ?_)
          · skip
            have hgd : (a3 = 0 ∨ a3 = 1) := by omega
            have hgn : (a3 = 0 → G (x5 + 1).toNat (w40 n)) ∧ (a3 = 1 → G (z0 (17 + 2 * rk) 1 - (x5 + 1)).toNat (w40 n)) := ⟨fun h => by first | (exfalso; omega) | exact GRo_fw hgo (i := x5.toNat) (by omega) (as1.1 h) hch.2.2.1 (by omega), fun h => by first | (exfalso; omega) | exact GRo_bw hgo (i := (z0 (17 + 2 * rk) 1 - (x5 + 1)).toNat) (by omega) (as1.2 h) (by rw [show (z0 (17 + 2 * rk) 1 - (x5 + 1)).toNat = (z0 (17 + 2 * rk) 1 - 1 - x5).toNat by omega]; exact hch.2.2.1) (by omega)⟩
            have hnn : ∀ j, j < 18 → 0 ≤ w40 n j := by rcases hgd with h | h; exact hgo.nn (x5 + 1).toNat _ (by omega) (hgn.1 h); exact hgo.nn (z0 (17 + 2 * rk) 1 - (x5 + 1)).toNat _ (by omega) (hgn.2 h)
            refine r_inc (pc' := 104) (lv' := [(10, _), (9, _), (8, _), (7, _), (6, _), (0, _), (1, _), (2, _), (3, _), (4, _)]) rfl rfl rfl rfl rfl ?_
            refine r_go rfl ?_
            exact w_lv (sub_c rfl (sub_c rfl (sub_c rfl (sub_c rfl (sub_c rfl (sub_c rfl sub_n)))))) rfl (ih0 (x5 + 1) z39 w40 ⟨by omega, by omega⟩ hs45 (by first | exact hgn | exact ⟨fun h => hG.1 h, fun h => by rw [show (z0 (17 + 2 * rk) 1 - 0).toNat = (z0 (17 + 2 * rk) 1).toNat by omega]; exact hG.2 h⟩) (by first | exact hnb | exact nb_fl as2 hch.2.2.1 (hnn _ (by omega)) (hch.2.2.2.1 (by omega))) (by first | omega | assumption) (by first | exact hg4.1 (by omega) | exact ⟨fun _ => rfl, fun _ => rfl⟩) (by omega))
          · skip
            refine r_c0 (pc' := 100) rfl rfl ?_
            exact r_rz rfl (by omega) (po_I hs45 ⟨by decide, by decide⟩ ⟨rfl, by omega, by omega, (by refine ⟨?_, ?_⟩; (first | (intro h; exfalso; omega) | (intro _; exact ⟨fun h => by rw [show (z0 (17 + 2 * rk) 1).toNat = x5.toNat by omega]; exact as1.1 h, fun h => by have q := as1.2 h; rw [show (z0 (17 + 2 * rk) 1 - x5).toNat = 0 by omega] at q; exact q, as2⟩)); (first | exact ⟨fun h => by exfalso; omega, fun _ => hg4.2 (by omega)⟩ | exact ⟨fun _ => ⟨fun h => by have q := as4.1 h; rw [show x5.toNat = (z0 (17 + 2 * rk) 1).toNat by omega] at q; exact q, fun h => by have q := as4.2 h; rw [show x5.toNat = (z0 (17 + 2 * rk) 1).toNat by omega] at q; exact q⟩, fun h => by exfalso; omega⟩))⟩)
  refine w_m rfl rfl ?_
  refine r_c0 (pc' := 1) rfl rfl ?_
  refine r_st (pc' := 3) (lv' := [(5, _), (0, _), (1, _), (2, _), (3, _), (4, _)]) rfl rfl rfl rfl ?_
  exact w_lv (sub_c rfl (sub_c rfl (sub_c rfl (sub_c rfl (sub_c rfl (sub_c rfl sub_n)))))) rfl ((key ((62 * (1782 - 0) + 59 : Int).toNat + 1)) 0 z0 w0 ⟨by omega, by omega⟩ hst (by first | exact hgn | exact ⟨fun h => hG.1 h, fun h => by rw [show (z0 (17 + 2 * rk) 1 - 0).toNat = (z0 (17 + 2 * rk) 1).toNat by omega]; exact hG.2 h⟩) (by first | exact hnb | exact nb_fl as2 hch.2.2.1 (hnn _ (by omega)) (hch.2.2.2.1 (by omega))) (by first | omega | assumption) (by first | exact hg4.1 (by omega) | exact ⟨fun _ => rfl, fun _ => rfl⟩) (by omega))
/-- Mover twistAlong -/
abbrev S_27e (n : Nat) : mS := [(n, n, 0, 17)]
abbrev E_27e (t : Nat) (n : Nat) (a2 : Int) (a3 : Int) (z0 w0 : mZ) (x y tx it mt tt ct : Option Nat) : Int → mZ → mZ → mP → Prop := fun v z w p => p = (pq x y tx it mt tt ct) ∧ 0 ≤ v ∧ v ≤ 1 ∧ (((v = 1 → FTt z0 t (w n) ∧ ∀ e : Nat, e < 18 → 0 ≤ w n e ∧ w n e ≤ 100000000000000)) ∧ (v = 1 → gal (rdc z0 a2.toNat) a3 (w0 n) = some (w n)) ∧ (v = 0 → gal (rdc z0 a2.toNat) a3 (w0 n) = none))
theorem m_27e {d : Nat} {z0 w0 : mZ} {x y tx it mt tt ct : Option Nat} (t : Nat) (n : Nat) (a2 : Int) (a3 : Int) (hz : rz z0) (hw : rw_ w0) (ha2 : 0 ≤ a2 ∧ a2 ≤ 7) (ha3 : (-99) ≤ a3 ∧ a3 ≤ 99) (ht : isT t) (hnb : ∀ e : Nat, e < 18 → 0 ≤ w0 n e ∧ w0 n e ≤ 100000000000000) (hft : FTt z0 t (w0 n)) (hgr : GRt z0 z0 t a2.toNat) (hkd : z0 (17 + 2 * a2.toNat) 0 = 2) (hn : lr n) (b15n : 15 ≤ n) (wn : wrr n) (mn : 149 ≤ n ∧ n ≤ 157) : wc (d + 4) 27 [.ref 10, .ref n, .int (Int32.ofInt a2), .int (Int32.ofInt a3), .null] (mk z0 w0 (pq x y tx it mt tt ct)) (poI (S_27e n) z0 w0 (E_27e t n a2 a3 z0 w0 x y tx it mt tt ct)) := by
  have hst : st_ (S_27e n) z0 w0 z0 w0 := st_rf hz hw
  have htb : 159 ≤ t ∧ t ≤ 192 := by have := ht; unfold isT at this; omega
  obtain ⟨G, hgo, htw1, htw2, ga, gb, ge, gf, gae, gaf, gbe, gbf, gef⟩ := hgr hkd
  obtain ⟨m, hm⟩ : ∃ m, m = (z0 t 0).toNat := ⟨_, rfl⟩
  obtain ⟨T, hT⟩ : ∃ T, T = vT (z0 (t + 1)) := ⟨_, rfl⟩
  rw [← hm, ← hT] at hgo
  have hr1 := rd_R_1 (k := a2.toNat) (by omega) hz
  have hr2 := rd_R_2 (k := a2.toNat) (by omega) hz
  have hr3 := rd_R_3 (k := a2.toNat) (by omega) hz
  have hr4 := rd_R_4 (k := a2.toNat) (by omega) hz
  have hr5 := rd_R_5 (k := a2.toNat) (by omega) hz
  have key : ∀ N : Nat, (∀ (x6 x7 x8 : Int) (z w : mZ), 0 ≤ x6 ∧ x6 ≤ 17 → 0 ≤ x7 ∧ x7 ≤ 17 → 0 ≤ x8 ∧ x8 ≤ 99 → st_ (S_27e n) z0 w0 z w → (G (z0 (17 + 2 * a2.toNat) 1).toNat (w n)) → (∀ e : Nat, e < 18 → 0 ≤ w n e ∧ w n e ≤ 100000000000000) → ((0 < a3 → x6 = z0 (17 + 2 * a2.toNat) 5 ∧ x7 = z0 (17 + 2 * a2.toNat) 4) ∧ (a3 ≤ 0 → x6 = z0 (17 + 2 * a2.toNat) 4 ∧ x7 = z0 (17 + 2 * a2.toNat) 5)) → (TG (rdc z0 a2.toNat) x7.toNat x6.toNat x8.toNat (w0 n) (w n)) → (x8 ≤ a3.natAbs) → 65 * (99 - x8) + 32 < (N : Int) → wp_ (d + 3) 27 9 (some .boolean) (64, [(0, .ref 10), (1, .ref n), (3, .int (Int32.ofInt a3)), (4, .null), (5, .ref (17 + 2 * a2.toNat)), (6, .int (Int32.ofInt x6)), (7, .int (Int32.ofInt x7)), (8, .int (Int32.ofInt x8))], [], mk z w (pq x y tx it mt tt ct)) (poI (S_27e n) z0 w0 (E_27e t n a2 a3 z0 w0 x y tx it mt tt ct))) := by
    intro N
    induction N with
    | zero =>
      intro x6 x7 x8 z w
      intros; exfalso; omega
    | succ N ih =>
      have ih0 := ih; clear ih
      intro x6 x7 x8 z w  hx6 hx7 hx8 hst as1 as2 as3 as4 as5 hM
      have grf : z (18 + 2 * a2.toNat) = z0 (18 + 2 * a2.toNat) := funext fun i => hst.2.2.1 _ _ (notS_c (by omega) (notS_n))
      have gr1 : z (17 + 2 * a2.toNat) 1 = z0 (17 + 2 * a2.toNat) 1 := hst.2.2.1 _ _ (notS_c (by omega) (notS_n))
      refine r_ld (pc' := 66) rfl rfl rfl rfl ?_
      refine r_ld (pc' := 67) rfl rfl rfl rfl ?_
      refine r_cSI (pc' := 70) rfl rfl rfl rfl rfl (m_259 (d := d + 2) a3 hst.1 hst.2.1 ⟨by omega, by omega⟩) (fun v57 z58 w59 p60 h61 hs62 hE63 => ?_)
      obtain ⟨rfl, rfl, rfl, hE63⟩ := hE63
      refine r_ige (pc' := 73) rfl rfl ⟨by omega, by omega⟩ ⟨by omega, by omega⟩ (fun hc65 => ?_) (fun hc65 => ?_)
      · skip
        refine r_ld (pc' := 119) rfl rfl rfl rfl ?_
        refine r_ld (pc' := 120) rfl rfl rfl rfl ?_
        refine r_ld (pc' := 122) rfl rfl rfl rfl ?_
        refine r_c0 (pc' := 123) rfl rfl ?_
        refine r_ld (pc' := 125) rfl rfl rfl rfl ?_
        have hb66 := rd_R_1 (k := a2.toNat) (by omega) hz
        have hf67 : z (17 + 2 * a2.toNat) 1 = z0 (17 + 2 * a2.toNat) 1 := (hst.2.2.1 _ _ (notS_c (by omega) notS_n))
        have hF68 : z (18 + 2 * a2.toNat) = z0 (18 + 2 * a2.toNat) := (funext fun _ => hst.2.2.1 _ _ (notS_c (by omega) notS_n))
        refine r_cVI (pc' := 128) rfl rfl rfl rfl rfl sh_10 (m_28e (d := d) m T G n a2.toNat 1 hst.1 hst.2.1 ⟨by omega, by omega⟩ (by first | omega | assumption | (simp only [hF68, hf67]; assumption)) (by exact as2) (by rw [grf, gr1]; exact hgo) (by exact ⟨fun h => absurd h (by omega), fun _ => by rw [gr1]; exact as1⟩) hn (by first | omega | assumption | (simp only [hF68, hf67]; assumption)) wn (by first | omega | assumption | (simp only [hF68, hf67]; assumption))) (fun v69 z70 w71 p72 h73 hs74 hE75 => ?_)
        have hs76 := st_tr hst hs74 (subS_c (fun _ _ _ _ _ _ => inS_0 (by omega) (by omega) (by omega) (by omega)) subS_n)
        obtain ⟨rfl, hE75⟩ := hE75
        have hpb := hE75.2.2.1
        have hpg := hE75.2.2.2
        rw [grf, gr1] at hpg
        exact r_rz rfl (by omega) (po_I hs76 ⟨by omega, by omega⟩ ⟨rfl, by omega, by omega, (by refine ⟨?_, ?_⟩; (first | (intro h; exfalso; omega) | (intro h; exact ⟨by have q := (hgo.g0 _).mpr ((hpb (by omega)).2.1 rfl); rw [hm, hT] at q; exact q, (hpb (by omega)).2.2⟩)); (rw [TM_b (TG_m as4 (fun q => ⟨by show x7.toNat = (z0 (17 + 2 * a2.toNat) 4).toNat; rw [(as3.1 q).2], by show x6.toNat = (z0 (17 + 2 * a2.toNat) 5).toNat; rw [(as3.1 q).1]⟩) (fun q => ⟨by show x7.toNat = (z0 (17 + 2 * a2.toNat) 5).toNat; rw [(as3.2 q).2], by show x6.toNat = (z0 (17 + 2 * a2.toNat) 4).toNat; rw [(as3.2 q).1]⟩) (by omega))]; exact ⟨fun h => (hpg.1 h).2 rfl, fun h => (hpg.2 h).2 rfl⟩))⟩)
      · skip
        refine r_ld (pc' := 74) rfl rfl rfl rfl ?_
        refine r_ld (pc' := 75) rfl rfl rfl rfl ?_
        refine r_ld (pc' := 77) rfl rfl rfl rfl ?_
        refine r_ld (pc' := 79) rfl rfl rfl rfl ?_
        have hb77 := rd_R_2 (k := a2.toNat) (by omega) hz
        refine r_gi (pc' := 82) rfl rfl (sh_R (k := a2.toNat) (by omega)) rfl (hst.2.2.1 _ _ (notS_c (by omega) notS_n)) ?_
        refine r_ld (pc' := 84) rfl rfl rfl rfl ?_
        have hb78 := rd_R_3 (k := a2.toNat) (by omega) hz
        refine r_gi (pc' := 87) rfl rfl (sh_R (k := a2.toNat) (by omega)) rfl (hst.2.2.1 _ _ (notS_c (by omega) notS_n)) ?_
        refine r_ld (pc' := 89) rfl rfl rfl rfl ?_
        refine r_ld (pc' := 91) rfl rfl rfl rfl ?_
        refine r_ld (pc' := 93) rfl rfl rfl rfl ?_
        refine r_cVI (pc' := 96) rfl rfl rfl rfl rfl sh_10 (m_29e (d := d + 1) n x7 (z0 (17 + 2 * a2.toNat) 2) (z0 (17 + 2 * a2.toNat) 3) x6 x6 hst.1 hst.2.1 ⟨by omega, by omega⟩ ⟨by omega, by omega⟩ ⟨by omega, by omega⟩ ⟨by omega, by omega⟩ ⟨by omega, by omega⟩ (by exact as2) hn (by first | omega | assumption) wn (by first | omega | assumption)) (fun v79 z80 w81 p82 h83 hs84 hE85 => ?_)
        have hs86 := st_tr hst hs84 (subS_c (fun _ _ _ _ _ _ => inS_0 (by omega) (by omega) (by omega) (by omega)) subS_n)
        obtain ⟨rfl, hE85⟩ := hE85
        have hch := hE85.2.2
        refine r_zne (pc' := 99) rfl rfl ⟨by omega, by omega⟩ (fun hc87 => ?_) (fun hc87 => ?_)
        · skip
          refine r_ld (pc' := 102) rfl rfl rfl rfl ?_
          refine r_ld (pc' := 103) rfl rfl rfl rfl ?_
          refine r_ld (pc' := 105) rfl rfl rfl rfl ?_
          refine r_ld (pc' := 107) rfl rfl rfl rfl ?_
          refine r_ld (pc' := 109) rfl rfl rfl rfl ?_
          refine r_cVV (pc' := 112) rfl rfl rfl rfl rfl sh_10 (m_30n (d := d + 1) n x6 x7 hs86.1 hs86.2.1 ⟨by omega, by omega⟩ ⟨by omega, by omega⟩ hn (by first | omega | assumption) wn (by first | omega | assumption)) (fun z89 w90 p91 hs93 hE94 => ?_)
          have hs95 := st_tr hs86 hs93 (subS_c (fun _ _ _ _ _ _ => inS_0 (by omega) (by omega) (by omega) (by omega)) subS_n)
          obtain ⟨rfl, hE94⟩ := hE94
          have hex := hE94
          have htw := tw_of (n := w n) (by omega) hch.1 hex
          have hgt : G (z0 (17 + 2 * a2.toNat) 1).toNat (w90 n) := by rw [htw]; (rcases (show 0 < a3 ∨ a3 ≤ 0 by omega) with q | q; (rw [(as3.1 q).1, (as3.1 q).2]; exact htw1 _ as1); (rw [(as3.2 q).1, (as3.2 q).2]; exact htw2 _ as1))
          have hgs : TG (rdc z0 a2.toNat) x7.toNat x6.toNat (x8 + 1).toNat (w0 n) (w90 n) := TG_s as4 htw (by rw [ex_v (by omega) hex]; exact hch.2.1 (by omega)) (by omega)
          refine r_inc (pc' := 115) (lv' := [(0, _), (1, _), (3, _), (4, _), (5, _), (6, _), (7, _)]) rfl rfl rfl rfl rfl ?_
          refine r_go rfl ?_
          exact w_lv (sub_c rfl (sub_c rfl (sub_c rfl (sub_c rfl (sub_c rfl (sub_c rfl (sub_c rfl (sub_c rfl sub_n)))))))) rfl (ih0 x6 x7 (x8 + 1) z89 w90 ⟨by omega, by omega⟩ ⟨by omega, by omega⟩ ⟨by omega, by omega⟩ hs95 (by first | exact (hpf (by omega)).1 rfl | exact hgt) (by first | exact (hpf (by omega)).2.2 | exact nb_ex (by omega) (by omega) (fun j hj => by by_cases c : j = x7.toNat; (subst c; exact hch.2.1 (by omega)); (rw [hch.1, fl_ne c]; exact (as2 j hj).2)) hex (hgo.nn _ _ (by omega) hgt)) (by first | omega | assumption) (by first | exact hgs | exact TG_0 (r := (rdc z0 a2.toNat)) ((hpe.1 (by omega)).1 rfl) rfl) (by first | omega | assumption) (by omega))
        · skip
          refine r_c0 (pc' := 100) rfl rfl ?_
          exact r_rz rfl (by omega) (po_I hs86 ⟨by decide, by decide⟩ ⟨rfl, by omega, by omega, (by refine ⟨fun h => by exfalso; omega, fun h => by exfalso; omega, fun _ => ?_⟩; exact TG_Y as4 hch.1 (hch.2.2 (by omega)) (fun q => ⟨by show x7.toNat = (z0 (17 + 2 * a2.toNat) 4).toNat; rw [(as3.1 q).2], by show x6.toNat = (z0 (17 + 2 * a2.toNat) 5).toNat; rw [(as3.1 q).1]⟩) (fun q => ⟨by show x7.toNat = (z0 (17 + 2 * a2.toNat) 5).toNat; rw [(as3.2 q).2], by show x6.toNat = (z0 (17 + 2 * a2.toNat) 4).toNat; rw [(as3.2 q).1]⟩) (by omega))⟩)
  refine w_m rfl rfl ?_
  refine r_ld (pc' := 1) rfl rfl rfl rfl ?_
  refine r_gr (b := 16) (pc' := 4) rfl rfl sh_10 rfl pp_10_1 ?_
  refine r_ld (pc' := 5) rfl rfl rfl rfl ?_
  refine r_aa (b := 17 + 2 * a2.toNat) (pc' := 6) rfl rfl sh_16 (Or.inr (Or.inr rfl)) rfl (by omega) (by omega) (pa_16 (by omega)) ?_
  refine r_st (pc' := 8) (lv' := [(5, _), (0, _), (1, _), (2, _), (3, _), (4, _)]) rfl rfl rfl rfl ?_
  refine r_ld (pc' := 9) rfl rfl rfl rfl ?_
  refine r_ld (pc' := 10) rfl rfl rfl rfl ?_
  refine r_ld (pc' := 12) rfl rfl rfl rfl ?_
  refine r_c0 (pc' := 13) rfl rfl ?_
  refine r_ld (pc' := 15) rfl rfl rfl rfl ?_
  have hb96 := rd_R_1 (k := a2.toNat) (by omega) hz
  refine r_cVI (pc' := 18) rfl rfl rfl rfl rfl sh_10 (m_28e (d := d) m T G n a2.toNat 0 hst.1 hst.2.1 ⟨by omega, by omega⟩ (by first | omega | assumption) (by exact hnb) (by exact hgo) (by exact ⟨fun _ => (hgo.g0 _).mp (by rw [hm, hT]; exact hft), fun h => absurd h (by omega)⟩) hn (by first | omega | assumption) wn (by first | omega | assumption)) (fun v97 z98 w99 p100 h101 hs102 hE103 => ?_)
  have hs104 := st_tr hst hs102 (subS_c (fun _ _ _ _ _ _ => inS_0 (by omega) (by omega) (by omega) (by omega)) subS_n)
  obtain ⟨rfl, hE103⟩ := hE103
  have hpf := hE103.2.2.1
  have hpe := hE103.2.2.2
  refine r_zne (pc' := 21) rfl rfl ⟨by omega, by omega⟩ (fun hc105 => ?_) (fun hc105 => ?_)
  · skip
    refine r_ld (pc' := 24) rfl rfl rfl rfl ?_
    refine r_zle (pc' := 27) rfl rfl ⟨by omega, by omega⟩ (fun hc106 => ?_) (fun hc106 => ?_)
    · skip
      refine r_ld (pc' := 37) rfl rfl rfl rfl ?_
      have hb107 := rd_R_4 (k := a2.toNat) (by omega) hz
      refine r_gi (pc' := 40) rfl rfl (sh_R (k := a2.toNat) (by omega)) rfl (hs102.2.2.1 _ _ (notS_c (by omega) notS_n)) ?_
      refine r_st (pc' := 42) (lv' := [(6, _), (5, _), (0, _), (1, _), (2, _), (3, _), (4, _)]) rfl rfl rfl rfl ?_
      refine r_ld (pc' := 43) rfl rfl rfl rfl ?_
      refine r_zle (pc' := 46) rfl rfl ⟨by omega, by omega⟩ (fun hc108 => ?_) (fun hc108 => ?_)
      · skip
        refine r_ld (pc' := 56) rfl rfl rfl rfl ?_
        have hb109 := rd_R_5 (k := a2.toNat) (by omega) hz
        refine r_gi (pc' := 59) rfl rfl (sh_R (k := a2.toNat) (by omega)) rfl (hs102.2.2.1 _ _ (notS_c (by omega) notS_n)) ?_
        refine r_st (pc' := 61) (lv' := [(7, _), (6, _), (5, _), (0, _), (1, _), (2, _), (3, _), (4, _)]) rfl rfl rfl rfl ?_
        refine r_c0 (pc' := 62) rfl rfl ?_
        refine r_st (pc' := 64) (lv' := [(8, _), (7, _), (6, _), (5, _), (0, _), (1, _), (2, _), (3, _), (4, _)]) rfl rfl rfl rfl ?_
        exact w_lv (sub_c rfl (sub_c rfl (sub_c rfl (sub_c rfl (sub_c rfl (sub_c rfl (sub_c rfl (sub_c rfl sub_n)))))))) rfl ((key ((65 * (99 - 0) + 32 : Int).toNat + 1)) (z0 (17 + 2 * a2.toNat) 4) (z0 (17 + 2 * a2.toNat) 5) 0 z98 w99 ⟨by omega, by omega⟩ ⟨by omega, by omega⟩ ⟨by omega, by omega⟩ hs104 (by first | exact (hpf (by omega)).1 rfl | exact hgt) (by first | exact (hpf (by omega)).2.2 | exact nb_ex (by omega) (by omega) (fun j hj => by by_cases c : j = x7.toNat; (subst c; exact hch.2.1 (by omega)); (rw [hch.1, fl_ne c]; exact (as2 j hj).2)) hex (hgo.nn _ _ (by omega) hgt)) (by first | omega | assumption) (by first | exact hgs | exact TG_0 (r := (rdc z0 a2.toNat)) ((hpe.1 (by omega)).1 rfl) rfl) (by first | omega | assumption) (by omega))
      · exfalso; omega
    · skip
      refine r_ld (pc' := 29) rfl rfl rfl rfl ?_
      have hb110 := rd_R_5 (k := a2.toNat) (by omega) hz
      refine r_gi (pc' := 32) rfl rfl (sh_R (k := a2.toNat) (by omega)) rfl (hs102.2.2.1 _ _ (notS_c (by omega) notS_n)) ?_
      refine r_go rfl ?_
      refine r_st (pc' := 42) (lv' := [(6, _), (5, _), (0, _), (1, _), (2, _), (3, _), (4, _)]) rfl rfl rfl rfl ?_
      refine r_ld (pc' := 43) rfl rfl rfl rfl ?_
      refine r_zle (pc' := 46) rfl rfl ⟨by omega, by omega⟩ (fun hc111 => ?_) (fun hc111 => ?_)
      · exfalso; omega
      · skip
        refine r_ld (pc' := 48) rfl rfl rfl rfl ?_
        have hb112 := rd_R_4 (k := a2.toNat) (by omega) hz
        refine r_gi (pc' := 51) rfl rfl (sh_R (k := a2.toNat) (by omega)) rfl (hs102.2.2.1 _ _ (notS_c (by omega) notS_n)) ?_
        refine r_go rfl ?_
        refine r_st (pc' := 61) (lv' := [(7, _), (6, _), (5, _), (0, _), (1, _), (2, _), (3, _), (4, _)]) rfl rfl rfl rfl ?_
        refine r_c0 (pc' := 62) rfl rfl ?_
        refine r_st (pc' := 64) (lv' := [(8, _), (7, _), (6, _), (5, _), (0, _), (1, _), (2, _), (3, _), (4, _)]) rfl rfl rfl rfl ?_
        exact w_lv (sub_c rfl (sub_c rfl (sub_c rfl (sub_c rfl (sub_c rfl (sub_c rfl (sub_c rfl (sub_c rfl sub_n)))))))) rfl ((key ((65 * (99 - 0) + 32 : Int).toNat + 1)) (z0 (17 + 2 * a2.toNat) 5) (z0 (17 + 2 * a2.toNat) 4) 0 z98 w99 ⟨by omega, by omega⟩ ⟨by omega, by omega⟩ ⟨by omega, by omega⟩ hs104 (by first | exact (hpf (by omega)).1 rfl | exact hgt) (by first | exact (hpf (by omega)).2.2 | exact nb_ex (by omega) (by omega) (fun j hj => by by_cases c : j = x7.toNat; (subst c; exact hch.2.1 (by omega)); (rw [hch.1, fl_ne c]; exact (as2 j hj).2)) hex (hgo.nn _ _ (by omega) hgt)) (by first | omega | assumption) (by first | exact hgs | exact TG_0 (r := (rdc z0 a2.toNat)) ((hpe.1 (by omega)).1 rfl) rfl) (by first | omega | assumption) (by omega))
  · skip
    refine r_c0 (pc' := 22) rfl rfl ?_
    exact r_rz rfl (by omega) (po_I hs104 ⟨by decide, by decide⟩ ⟨rfl, by omega, by omega, (by refine ⟨fun h => by exfalso; omega, fun h => by exfalso; omega, fun _ => ?_⟩; exact gal_1 (r := (rdc z0 a2.toNat)) ((hpe.2 (by omega)).1 rfl))⟩)
/-- Mover goThrough -/
abbrev S_26e (n : Nat) : mS := [(n, n, 0, 17)]
abbrev E_26e (t : Nat) (n : Nat) (a2 : Int) (z0 w0 : mZ) (x y tx it tt ct : Option Nat) : Int → mZ → mZ → mP → Prop := fun v z w p => p = (pq x y tx it (some t) tt ct) ∧ 0 ≤ v ∧ v ≤ 1 ∧ (((v = 1 → FTt z0 t (w n) ∧ ∀ e : Nat, e < 18 → 0 ≤ w n e ∧ w n e ≤ 100000000000000)) ∧ (v = 1 → gwc z0 t a2.toNat (w0 n) = some (w n)) ∧ (v = 0 → gwc z0 t a2.toNat (w0 n) = none))
theorem m_26e {d : Nat} {z0 w0 : mZ} {x y tx it tt ct : Option Nat} (t : Nat) (n : Nat) (a2 : Int) (hz : rz z0) (hw : rw_ w0) (ha2 : 0 ≤ a2 ∧ a2 ≤ 5) (ht : isT t) (hnb : ∀ e : Nat, e < 18 → 0 ≤ w0 n e ∧ w0 n e ≤ 100000000000000) (hft : FTt z0 t (w0 n)) (hga : GA z0 z0 t) (hfw : FW z0 t a2.toNat) (hn : lr n) (b15n : 15 ≤ n) (wn : wrr n) (mn : 149 ≤ n ∧ n ≤ 157) : wc (d + 5) 26 [.ref 10, .ref n, .int (Int32.ofInt a2), .null] (mk z0 w0 (pq x y tx it (some t) tt ct)) (poI (S_26e n) z0 w0 (E_26e t n a2 z0 w0 x y tx it tt ct)) := by
  have hst : st_ (S_26e n) z0 w0 z0 w0 := st_rf hz hw
  have htb : 159 ≤ t ∧ t ≤ 192 := by have := ht; unfold isT at this; omega
  have hzt3 := rd_T_3 ht hz
  have key : ∀ N : Nat, (∀ (x4 : Int) (z w : mZ), 0 ≤ x4 ∧ x4 ≤ 8 → st_ (S_26e n) z0 w0 z w → (FTt z0 t (w n)) → (∀ e : Nat, e < 18 → 0 ≤ w n e ∧ w n e ≤ 100000000000000) → (gwd (rdc z0) (fun i => (z0 (t + 20 + a2.toNat) i).toNat) (fun i => z0 (t + 27 + a2.toNat) i) x4.toNat (w0 n) = some (w n)) → (x4 ≤ z0 (t + 18) a2.toNat) → 34 * (8 - x4) + 31 < (N : Int) → wp_ (d + 4) 26 5 (some .boolean) (3, [(0, .ref 10), (1, .ref n), (2, .int (Int32.ofInt a2)), (3, .null), (4, .int (Int32.ofInt x4))], [], mk z w (pq x y tx it (some t) tt ct)) (poI (S_26e n) z0 w0 (E_26e t n a2 z0 w0 x y tx it tt ct))) := by
    intro N
    induction N with
    | zero =>
      intro x4 z w
      intros; exfalso; omega
    | succ N ih =>
      have ih0 := ih; clear ih
      intro x4 z w  hx4 hst as1 as2 as3 as4 hM
      have et0 : z t 0 = z0 t 0 := hst.2.2.1 _ _ (notS_c (by omega) (notS_n))
      have et1 : z (t + 1) = z0 (t + 1) := funext fun i => hst.2.2.1 _ _ (notS_c (by omega) (notS_n))
      refine r_ld (pc' := 5) rfl rfl rfl rfl ?_
      refine r_ld (pc' := 6) rfl rfl rfl rfl ?_
      refine r_gr (b := t) (pc' := 9) rfl rfl sh_10 rfl pp_10_2 ?_
      refine r_gr (b := t + 18) (pc' := 12) rfl rfl (sh_T ht) rfl (pp_T_14 ht) ?_
      refine r_ld (pc' := 13) rfl rfl rfl rfl ?_
      have hb16 := rd_T18 ht hz (i := a2.toNat) (by omega)
      refine r_ia (pc' := 14) rfl rfl (sh_T18 ht) rfl (by omega) (by omega) (hst.2.2.1 _ _ (notS_c (by omega) notS_n)) ?_
      refine r_ige (pc' := 17) rfl rfl ⟨by omega, by omega⟩ ⟨by omega, by omega⟩ (fun hc17 => ?_) (fun hc17 => ?_)
      · skip
        refine r_c0 (pc' := 59) rfl rfl ?_
        exact r_rz rfl (by omega) (po_I hst ⟨by decide, by decide⟩ ⟨rfl, by omega, by omega, (by refine ⟨?_, ?_⟩; (first | (intro h; exfalso; omega) | exact fun _ => ⟨as1, as2⟩); (first | exact ⟨fun h => by exfalso; omega, fun _ => gwd_X as3 (hte.2 (by omega)) (by omega)⟩ | exact ⟨fun _ => by unfold gwc; rw [show (z0 (t + 18) a2.toNat).toNat = x4.toNat by omega]; exact as3, fun h => by exfalso; omega⟩))⟩)
      · skip
        have hfi := hfw x4.toNat (by omega)
        have hfr := rd_T20 ht (k := a2.toNat) (by omega) hz (i := x4.toNat) (by omega)
        have rdz : rdc z (z0 (t + 20 + a2.toNat) x4.toNat).toNat = rdc z0 (z0 (t + 20 + a2.toNat) x4.toNat).toNat := rdc_f (fun i hi => hst.2.2.1 _ _ (notS_c (by omega) (notS_n))) (funext fun i => hst.2.2.1 _ _ (notS_c (by omega) (notS_n)))
        refine r_ld (pc' := 18) rfl rfl rfl rfl ?_
        refine r_ld (pc' := 19) rfl rfl rfl rfl ?_
        refine r_ld (pc' := 20) rfl rfl rfl rfl ?_
        refine r_gr (b := t) (pc' := 23) rfl rfl sh_10 rfl pp_10_2 ?_
        refine r_gr (b := t + 19) (pc' := 26) rfl rfl (sh_T ht) rfl (pp_T_15 ht) ?_
        refine r_ld (pc' := 27) rfl rfl rfl rfl ?_
        refine r_aa (b := t + 20 + a2.toNat) (pc' := 28) rfl rfl (sh_T19 ht) (Or.inr (Or.inl rfl)) rfl (by omega) (by omega) (pa_T19 ht (by omega)) ?_
        refine r_ld (pc' := 30) rfl rfl rfl rfl ?_
        have hb18 := rd_T20 ht (k := a2.toNat) (by omega) hz (i := x4.toNat) (by omega)
        refine r_ia (pc' := 31) rfl rfl (sh_T20 ht (by omega)) rfl (by omega) (by omega) (hst.2.2.1 _ _ (notS_c (by omega) notS_n)) ?_
        refine r_ld (pc' := 32) rfl rfl rfl rfl ?_
        refine r_gr (b := t) (pc' := 35) rfl rfl sh_10 rfl pp_10_2 ?_
        refine r_gr (b := t + 26) (pc' := 38) rfl rfl (sh_T ht) rfl (pp_T_16 ht) ?_
        refine r_ld (pc' := 39) rfl rfl rfl rfl ?_
        refine r_aa (b := t + 27 + a2.toNat) (pc' := 40) rfl rfl (sh_T26 ht) (Or.inr (Or.inl rfl)) rfl (by omega) (by omega) (pa_T26 ht (by omega)) ?_
        refine r_ld (pc' := 42) rfl rfl rfl rfl ?_
        have hb19 := rd_T27 ht (k := a2.toNat) (by omega) hz (i := x4.toNat) (by omega)
        refine r_ia (pc' := 43) rfl rfl (sh_T27 ht (by omega)) rfl (by omega) (by omega) (hst.2.2.1 _ _ (notS_c (by omega) notS_n)) ?_
        refine r_ld (pc' := 44) rfl rfl rfl rfl ?_
        have hb20 := rd_R_0 (k := (z0 (t + 20 + a2.toNat) x4.toNat).toNat) (by omega) hz
        have hf21 : z (17 + 2 * (z0 (t + 20 + a2.toNat) x4.toNat).toNat) 0 = z0 (17 + 2 * (z0 (t + 20 + a2.toNat) x4.toNat).toNat) 0 := (hst.2.2.1 _ _ (notS_c (by omega) notS_n))
        refine r_cVI (pc' := 47) rfl rfl rfl rfl rfl sh_10 (m_27e (d := d) t n (z0 (t + 20 + a2.toNat) x4.toNat) (z0 (t + 27 + a2.toNat) x4.toNat) hst.1 hst.2.1 ⟨by omega, by omega⟩ ⟨by omega, by omega⟩ ht (by exact as2) (by exact FTt_fr et0 et1 as1) (by exact GRt_cg (hga _ (by omega)) et0.symm et1.symm (fun i _ => hst.2.2.1 _ _ (notS_c (by omega) (notS_n))) (funext fun i => hst.2.2.1 _ _ (notS_c (by omega) (notS_n)))) (by exact (hst.2.2.1 _ _ (notS_c (by omega) (notS_n))).trans hfi.2) hn (by first | omega | assumption | (simp only [hf21]; assumption)) wn (by first | omega | assumption | (simp only [hf21]; assumption))) (fun v22 z23 w24 p25 h26 hs27 hE28 => ?_)
        have hs29 := st_tr hst hs27 (subS_c (fun _ _ _ _ _ _ => inS_0 (by omega) (by omega) (by omega) (by omega)) subS_n)
        obtain ⟨rfl, hE28⟩ := hE28
        have htw := hE28.2.2.1
        have hte := hE28.2.2.2
        rw [rdz] at hte
        refine r_zne (pc' := 50) rfl rfl ⟨by omega, by omega⟩ (fun hc30 => ?_) (fun hc30 => ?_)
        · skip
          refine r_inc (pc' := 55) (lv' := [(0, _), (1, _), (2, _), (3, _)]) rfl rfl rfl rfl rfl ?_
          refine r_go rfl ?_
          exact w_lv (sub_c rfl (sub_c rfl (sub_c rfl (sub_c rfl (sub_c rfl sub_n))))) rfl (ih0 (x4 + 1) z23 w24 ⟨by omega, by omega⟩ hs29 (by first | exact hft | exact FTt_fr et0.symm et1.symm (htw (by omega)).1) (by first | exact hnb | exact (htw (by omega)).2) (by first | exact gwd_s as3 (hte.1 (by omega)) (by omega) | exact rfl) (by first | omega | (have h9 := rd_T18 ht hz (i := a2.toNat) (by omega); omega)) (by omega))
        · skip
          refine r_c0 (pc' := 51) rfl rfl ?_
          exact r_rz rfl (by omega) (po_I hs29 ⟨by decide, by decide⟩ ⟨rfl, by omega, by omega, (by refine ⟨?_, ?_⟩; (first | (intro h; exfalso; omega) | exact fun _ => ⟨as1, as2⟩); (first | exact ⟨fun h => by exfalso; omega, fun _ => gwd_X as3 (hte.2 (by omega)) (by omega)⟩ | exact ⟨fun _ => by unfold gwc; rw [show (z0 (t + 18) a2.toNat).toNat = x4.toNat by omega]; exact as3, fun h => by exfalso; omega⟩))⟩)
  refine w_m rfl rfl ?_
  refine r_c0 (pc' := 1) rfl rfl ?_
  refine r_st (pc' := 3) (lv' := [(4, _), (0, _), (1, _), (2, _), (3, _)]) rfl rfl rfl rfl ?_
  exact w_lv (sub_c rfl (sub_c rfl (sub_c rfl (sub_c rfl (sub_c rfl sub_n))))) rfl ((key ((34 * (8 - 0) + 31 : Int).toNat + 1)) 0 z0 w0 ⟨by omega, by omega⟩ hst (by first | exact hft | exact FTt_fr et0.symm et1.symm (htw (by omega)).1) (by first | exact hnb | exact (htw (by omega)).2) (by first | exact gwd_s as3 (hte.1 (by omega)) (by omega) | exact rfl) (by first | omega | (have h9 := rd_T18 ht hz (i := a2.toNat) (by omega); omega)) (by omega))
