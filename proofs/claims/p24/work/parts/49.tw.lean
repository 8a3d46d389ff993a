/-! methods, printed by wip/tools/vcg.py -/
/-- Mover twistAlong -/
abbrev S_27n (n : Nat) : mS := [(n, n, 0, 17)]
abbrev E_27n (t : Nat) (n : Nat) (a2 : Int) (a3 : Int) (z0 w0 : mZ) (x y tx it mt tt ct : Option Nat) : Int → mZ → mZ → mP → Prop := fun v z w p => p = (pq x y tx it mt tt ct) ∧ 0 ≤ v ∧ v ≤ 1 ∧ ((v = 1 → FTt z0 t (w n) ∧ ∀ e : Nat, e < 18 → 0 ≤ w n e ∧ w n e ≤ 100000000000000))
theorem m_27n {d : Nat} {z0 w0 : mZ} {x y tx it mt tt ct : Option Nat} (t : Nat) (n : Nat) (a2 : Int) (a3 : Int) (hz : rz z0) (hw : rw_ w0) (ha2 : 0 ≤ a2 ∧ a2 ≤ 7) (ha3 : (-99) ≤ a3 ∧ a3 ≤ 99) (ht : isT t) (hnb : ∀ e : Nat, e < 18 → 0 ≤ w0 n e ∧ w0 n e ≤ 100000000000000) (hft : FTt z0 t (w0 n)) (hgr : GRt z0 z0 t a2.toNat) (hkd : z0 (17 + 2 * a2.toNat) 0 = 2) (hn : lr n) (b15n : 15 ≤ n) (wn : wrr n) (mn : 149 ≤ n ∧ n ≤ 157) : wc (d + 4) 27 [.ref 10, .ref n, .int (Int32.ofInt a2), .int (Int32.ofInt a3), .null] (mk z0 w0 (pq x y tx it mt tt ct)) (poI (S_27n n) z0 w0 (E_27n t n a2 a3 z0 w0 x y tx it mt tt ct)) := by
  have hst : st_ (S_27n n) z0 w0 z0 w0 := st_rf hz hw
  have htb : 159 ≤ t ∧ t ≤ 192 := by have := ht; unfold isT at this; omega
  obtain ⟨G, hgo, htw1, htw2, ga, gb, ge, gf, gae, gaf, gbe, gbf, gef⟩ := hgr hkd
  obtain ⟨m, hm⟩ : ∃ m, m = (z0 t 0).toNat := ⟨_, rfl⟩
  obtain ⟨T, hT⟩ : ∃ T, T = vT (z0 (t + 1)) := ⟨_, rfl⟩
  rw [← hm, ← hT] at hgo
  have hr1 := rd_R_1 (k := a2.toNat) (by omega) hz
  have hr2 := rd_R_2 (k := a2.toNat) (by omega) hz
  have hr3 := rd_R_3 (k := a2.toNat) (by omega) hz
  have hr4 := rd_R_4 (k := a2.toNat) (by omega) hz
  have hr5 := rd_R_5 (k := a2.toNat) (by omega) hz
  have key : ∀ N : Nat, (∀ (x6 x7 x8 : Int) (z w : mZ), 0 ≤ x6 ∧ x6 ≤ 17 → 0 ≤ x7 ∧ x7 ≤ 17 → 0 ≤ x8 ∧ x8 ≤ 99 → st_ (S_27n n) z0 w0 z w → (G (z0 (17 + 2 * a2.toNat) 1).toNat (w n)) → (∀ e : Nat, e < 18 → 0 ≤ w n e ∧ w n e ≤ 100000000000000) → ((0 < a3 → x6 = z0 (17 + 2 * a2.toNat) 5 ∧ x7 = z0 (17 + 2 * a2.toNat) 4) ∧ (a3 ≤ 0 → x6 = z0 (17 + 2 * a2.toNat) 4 ∧ x7 = z0 (17 + 2 * a2.toNat) 5)) → 65 * (99 - x8) + 32 < (N : Int) → wp_ (d + 3) 27 9 (some .boolean) (64, [(0, .ref 10), (1, .ref n), (3, .int (Int32.ofInt a3)), (4, .null), (5, .ref (17 + 2 * a2.toNat)), (6, .int (Int32.ofInt x6)), (7, .int (Int32.ofInt x7)), (8, .int (Int32.ofInt x8))], [], mk z w (pq x y tx it mt tt ct)) (poI (S_27n n) z0 w0 (E_27n t n a2 a3 z0 w0 x y tx it mt tt ct))) := by
    intro N
    induction N with
    | zero =>
      intro x6 x7 x8 z w
      intros; exfalso; omega
    | succ N ih =>
      have ih0 := ih; clear ih
      intro x6 x7 x8 z w  hx6 hx7 hx8 hst as1 as2 as3 hM
      have grf : z (18 + 2 * a2.toNat) = z0 (18 + 2 * a2.toNat) := funext fun i => hst.2.2.1 _ _ (notS_c (by omega) (notS_n))
      have gr1 : z (17 + 2 * a2.toNat) 1 = z0 (17 + 2 * a2.toNat) 1 := hst.2.2.1 _ _ (notS_c (by omega) (notS_n))
      refine r_ld (pc' := 66) rfl rfl rfl rfl ?_
      refine r_ld (pc' := 67) rfl rfl rfl rfl ?_
      refine r_cSI (pc' := 70) rfl rfl rfl rfl rfl (m_259 (d := d + 2) a3 hst.1 hst.2.1 ⟨by omega, by omega⟩) (fun v57 z58 w59 p60 h61 hs62 hE63 => ?_)
      obtain ⟨rfl, rfl, rfl, hE63⟩ := hE63
      refine r_ige (pc' := 73) rfl rfl ⟨by omega, by omega⟩ ⟨by omega, by omega⟩ (fun hc65 => ?_) (fun hc65 => ?_)
      · skip
        refine r_ld (pc' := 119) rfl rfl rfl rfl ?_
        refine r_ld (pc' := 120) rfl rfl rfl rfl ?_
        refine r_ld (pc' := 122) rfl rfl rfl rfl ?_
        refine r_c0 (pc' := 123) rfl rfl ?_
        refine r_ld (pc' := 125) rfl rfl rfl rfl ?_
        have hb66 := rd_R_1 (k := a2.toNat) (by omega) hz
        have hf67 : z (17 + 2 * a2.toNat) 1 = z0 (17 + 2 * a2.toNat) 1 := (hst.2.2.1 _ _ (notS_c (by omega) notS_n))
        have hF68 : z (18 + 2 * a2.toNat) = z0 (18 + 2 * a2.toNat) := (funext fun _ => hst.2.2.1 _ _ (notS_c (by omega) notS_n))
        refine r_cVI (pc' := 128) rfl rfl rfl rfl rfl sh_10 (m_28n (d := d) m T G n a2.toNat 1 hst.1 hst.2.1 ⟨by omega, by omega⟩ (by first | omega | assumption | (simp only [hF68, hf67]; assumption)) (by exact as2) (by rw [grf, gr1]; exact hgo) (by exact ⟨fun h => absurd h (by omega), fun _ => by rw [gr1]; exact as1⟩) hn (by first | omega | assumption | (simp only [hF68, hf67]; assumption)) wn (by first | omega | assumption | (simp only [hF68, hf67]; assumption))) (fun v69 z70 w71 p72 h73 hs74 hE75 => ?_)
        have hs76 := st_tr hst hs74 (subS_c (fun _ _ _ _ _ _ => inS_0 (by omega) (by omega) (by omega) (by omega)) subS_n)
        obtain ⟨rfl, hE75⟩ := hE75
        have hpb := hE75.2.2
        exact r_rz rfl (by omega) (po_I hs76 ⟨by omega, by omega⟩ ⟨rfl, by omega, by omega, (by first | (intro h; exfalso; omega) | (intro h; exact ⟨by have q := (hgo.g0 _).mpr ((hpb (by omega)).2.1 rfl); rw [hm, hT] at q; exact q, (hpb (by omega)).2.2⟩))⟩)
      · skip
        refine r_ld (pc' := 74) rfl rfl rfl rfl ?_
        refine r_ld (pc' := 75) rfl rfl rfl rfl ?_
        refine r_ld (pc' := 77) rfl rfl rfl rfl ?_
        refine r_ld (pc' := 79) rfl rfl rfl rfl ?_
        have hb77 := rd_R_2 (k := a2.toNat) (by omega) hz
        refine r_gi (pc' := 82) rfl rfl (sh_R (k := a2.toNat) (by omega)) rfl (hst.2.2.1 _ _ (notS_c (by omega) notS_n)) ?_
        refine r_ld (pc' := 84) rfl rfl rfl rfl ?_
        have hb78 := rd_R_3 (k := a2.toNat) (by omega) hz
        refine r_gi (pc' := 87) rfl rfl (sh_R (k := a2.toNat) (by omega)) rfl (hst.2.2.1 _ _ (notS_c (by omega) notS_n)) ?_
        refine r_ld (pc' := 89) rfl rfl rfl rfl ?_
        refine r_ld (pc' := 91) rfl rfl rfl rfl ?_
        refine r_ld (pc' := 93) rfl rfl rfl rfl ?_
        refine r_cVI (pc' := 96) rfl rfl rfl rfl rfl sh_10 (m_29n (d := d + 1) n x7 (z0 (17 + 2 * a2.toNat) 2) (z0 (17 + 2 * a2.toNat) 3) x6 x6 hst.1 hst.2.1 ⟨by omega, by omega⟩ ⟨by omega, by omega⟩ ⟨by omega, by omega⟩ ⟨by omega, by omega⟩ ⟨by omega, by omega⟩ (by exact as2) hn (by first | omega | assumption) wn (by first | omega | assumption)) (fun v79 z80 w81 p82 h83 hs84 hE85 => ?_)
        have hs86 := st_tr hst hs84 (subS_c (fun _ _ _ _ _ _ => inS_0 (by omega) (by omega) (by omega) (by omega)) subS_n)
        obtain ⟨rfl, hE85⟩ := hE85
        have hch := hE85.2.2
        refine r_zne (pc' := 99) rfl rfl ⟨by omega, by omega⟩ (fun hc87 => ?_) (fun hc87 => ?_)
        · skip
          refine r_ld (pc' := 102) rfl rfl rfl rfl ?_
          refine r_ld (pc' := 103) rfl rfl rfl rfl ?_
          refine r_ld (pc' := 105) rfl rfl rfl rfl ?_
          refine r_ld (pc' := 107) rfl rfl rfl rfl ?_
          refine r_ld (pc' := 109) rfl rfl rfl rfl ?_
          refine r_cVV (pc' := 112) rfl rfl rfl rfl rfl sh_10 (m_30n (d := d + 1) n x6 x7 hs86.1 hs86.2.1 ⟨by omega, by omega⟩ ⟨by omega, by omega⟩ hn (by first | omega | assumption) wn (by first | omega | assumption)) (fun z89 w90 p91 hs93 hE94 => ?_)
          have hs95 := st_tr hs86 hs93 (subS_c (fun _ _ _ _ _ _ => inS_0 (by omega) (by omega) (by omega) (by omega)) subS_n)
          obtain ⟨rfl, hE94⟩ := hE94
          have hex := hE94
          have htw := tw_of (n := w n) (by omega) hch.1 hex
          have hgt : G (z0 (17 + 2 * a2.toNat) 1).toNat (w90 n) := by rw [htw]; (rcases (show 0 < a3 ∨ a3 ≤ 0 by omega) with q | q; (rw [(as3.1 q).1, (as3.1 q).2]; exact htw1 _ as1); (rw [(as3.2 q).1, (as3.2 q).2]; exact htw2 _ as1))
          refine r_inc (pc' := 115) (lv' := [(0, _), (1, _), (3, _), (4, _), (5, _), (6, _), (7, _)]) rfl rfl rfl rfl rfl ?_
          refine r_go rfl ?_
          exact w_lv (sub_c rfl (sub_c rfl (sub_c rfl (sub_c rfl (sub_c rfl (sub_c rfl (sub_c rfl (sub_c rfl sub_n)))))))) rfl (ih0 x6 x7 (x8 + 1) z89 w90 ⟨by omega, by omega⟩ ⟨by omega, by omega⟩ ⟨by omega, by omega⟩ hs95 (by first | exact (hpf (by omega)).1 rfl | exact hgt) (by first | exact (hpf (by omega)).2.2 | exact nb_ex (by omega) (by omega) (fun j hj => by by_cases c : j = x7.toNat; (subst c; exact hch.2 (by omega)); (rw [hch.1, fl_ne c]; exact (as2 j hj).2)) hex (hgo.nn _ _ (by omega) hgt)) (by first | omega | assumption) (by omega))
        · skip
          refine r_c0 (pc' := 100) rfl rfl ?_
          exact r_rz rfl (by omega) (po_I hs86 ⟨by decide, by decide⟩ ⟨rfl, by omega, by omega, (by first | (intro h; exfalso; omega) | (intro h; exact ⟨by have q := (hgo.g0 _).mpr ((hpb (by omega)).2.1 rfl); rw [hm, hT] at q; exact q, (hpb (by omega)).2.2⟩))⟩)
  refine w_m rfl rfl ?_
  refine r_ld (pc' := 1) rfl rfl rfl rfl ?_
  refine r_gr (b := 16) (pc' := 4) rfl rfl sh_10 rfl pp_10_1 ?_
  refine r_ld (pc' := 5) rfl rfl rfl rfl ?_
  refine r_aa (b := 17 + 2 * a2.toNat) (pc' := 6) rfl rfl sh_16 (Or.inr (Or.inr rfl)) rfl (by omega) (by omega) (pa_16 (by omega)) ?_
  refine r_st (pc' := 8) (lv' := [(5, _), (0, _), (1, _), (2, _), (3, _), (4, _)]) rfl rfl rfl rfl ?_
  refine r_ld (pc' := 9) rfl rfl rfl rfl ?_
  refine r_ld (pc' := 10) rfl rfl rfl rfl ?_
  refine r_ld (pc' := 12) rfl rfl rfl rfl ?_
  refine r_c0 (pc' := 13) rfl rfl ?_
  refine r_ld (pc' := 15) rfl rfl rfl rfl ?_
  have hb96 := rd_R_1 (k := a2.toNat) (by omega) hz
  refine r_cVI (pc' := 18) rfl rfl rfl rfl rfl sh_10 (m_28n (d := d) m T G n a2.toNat 0 hst.1 hst.2.1 ⟨by omega, by omega⟩ (by first | omega | assumption) (by exact hnb) (by exact hgo) (by exact ⟨fun _ => (hgo.g0 _).mp (by rw [hm, hT]; exact hft), fun h => absurd h (by omega)⟩) hn (by first | omega | assumption) wn (by first | omega | assumption)) (fun v97 z98 w99 p100 h101 hs102 hE103 => ?_)
  have hs104 := st_tr hst hs102 (subS_c (fun _ _ _ _ _ _ => inS_0 (by omega) (by omega) (by omega) (by omega)) subS_n)
  obtain ⟨rfl, hE103⟩ := hE103
  have hpf := hE103.2.2
  refine r_zne (pc' := 21) rfl rfl ⟨by omega, by omega⟩ (fun hc105 => ?_) (fun hc105 => ?_)
  · skip
    refine r_ld (pc' := 24) rfl rfl rfl rfl ?_
    refine r_zle (pc' := 27) rfl rfl ⟨by omega, by omega⟩ (fun hc106 => ?_) (fun hc106 => ?_)
    · skip
      refine r_ld (pc' := 37) rfl rfl rfl rfl ?_
      have hb107 := rd_R_4 (k := a2.toNat) (by omega) hz
      refine r_gi (pc' := 40) rfl rfl (sh_R (k := a2.toNat) (by omega)) rfl (hs102.2.2.1 _ _ (notS_c (by omega) notS_n)) ?_
      refine r_st (pc' := 42) (lv' := [(6, _), (5, _), (0, _), (1, _), (2, _), (3, _), (4, _)]) rfl rfl rfl rfl ?_
      refine r_ld (pc' := 43) rfl rfl rfl rfl ?_
      refine r_zle (pc' := 46) rfl rfl ⟨by omega, by omega⟩ (fun hc108 => ?_) (fun hc108 => ?_)
      · skip
        refine r_ld (pc' := 56) rfl rfl rfl rfl ?_
        have hb109 := rd_R_5 (k := a2.toNat) (by omega) hz
        refine r_gi (pc' := 59) rfl rfl (sh_R (k := a2.toNat) (by omega)) rfl (hs102.2.2.1 _ _ (notS_c (by omega) notS_n)) ?_
        refine r_st (pc' := 61) (lv' := [(7, _), (6, _), (5, _), (0, _), (1, _), (2, _), (3, _), (4, _)]) rfl rfl rfl rfl ?_
        refine r_c0 (pc' := 62) rfl rfl ?_
        refine r_st (pc' := 64) (lv' := [(8, _), (7, _), (6, _), (5, _), (0, _), (1, _), (2, _), (3, _), (4, _)]) rfl rfl rfl rfl ?_
        exact w_lv (sub_c rfl (sub_c rfl (sub_c rfl (sub_c rfl (sub_c rfl (sub_c rfl (sub_c rfl (sub_c rfl sub_n)))))))) rfl ((key ((65 * (99 - 0) + 32 : Int).toNat + 1)) (z0 (17 + 2 * a2.toNat) 4) (z0 (17 + 2 * a2.toNat) 5) 0 z98 w99 ⟨by omega, by omega⟩ ⟨by omega, by omega⟩ ⟨by omega, by omega⟩ hs104 (by first | exact (hpf (by omega)).1 rfl | exact hgt) (by first | exact (hpf (by omega)).2.2 | exact nb_ex (by omega) (by omega) (fun j hj => by by_cases c : j = x7.toNat; (subst c; exact hch.2 (by omega)); (rw [hch.1, fl_ne c]; exact (as2 j hj).2)) hex (hgo.nn _ _ (by omega) hgt)) (by first | omega | assumption) (by omega))
      · exfalso; omega
    · skip
      refine r_ld (pc' := 29) rfl rfl rfl rfl ?_
      have hb110 := rd_R_5 (k := a2.toNat) (by omega) hz
      refine r_gi (pc' := 32) rfl rfl (sh_R (k := a2.toNat) (by omega)) rfl (hs102.2.2.1 _ _ (notS_c (by omega) notS_n)) ?_
      refine r_go rfl ?_
      refine r_st (pc' := 42) (lv' := [(6, _), (5, _), (0, _), (1, _), (2, _), (3, _), (4, _)]) rfl rfl rfl rfl ?_
      refine r_ld (pc' := 43) rfl rfl rfl rfl ?_
      refine r_zle (pc' := 46) rfl rfl ⟨by omega, by omega⟩ (fun hc111 => ?_) (fun hc111 => ?_)
      · exfalso; omega
      · skip
        refine r_ld (pc' := 48) rfl rfl rfl rfl ?_
        have hb112 := rd_R_4 (k := a2.toNat) (by omega) hz
        refine r_gi (pc' := 51) rfl rfl (sh_R (k := a2.toNat) (by omega)) rfl (hs102.2.2.1 _ _ (notS_c (by omega) notS_n)) ?_
        refine r_go rfl ?_
        refine r_st (pc' := 61) (lv' := [(7, _), (6, _), (5, _), (0, _), (1, _), (2, _), (3, _), (4, _)]) rfl rfl rfl rfl ?_
        refine r_c0 (pc' := 62) rfl rfl ?_
        refine r_st (pc' := 64) (lv' := [(8, _), (7, _), (6, _), (5, _), (0, _), (1, _), (2, _), (3, _), (4, _)]) rfl rfl rfl rfl ?_
        exact w_lv (sub_c rfl (sub_c rfl (sub_c rfl (sub_c rfl (sub_c rfl (sub_c rfl (sub_c rfl (sub_c rfl sub_n)))))))) rfl ((key ((65 * (99 - 0) + 32 : Int).toNat + 1)) (z0 (17 + 2 * a2.toNat) 5) (z0 (17 + 2 * a2.toNat) 4) 0 z98 w99 ⟨by omega, by omega⟩ ⟨by omega, by omega⟩ ⟨by omega, by omega⟩ hs104 (by first | exact (hpf (by omega)).1 rfl | exact hgt) (by first | exact (hpf (by omega)).2.2 | exact nb_ex (by omega) (by omega) (fun j hj => by by_cases c : j = x7.toNat; (subst c; exact hch.2 (by omega)); (rw [hch.1, fl_ne c]; exact (as2 j hj).2)) hex (hgo.nn _ _ (by omega) hgt)) (by first | omega | assumption) (by omega))
  · skip
    refine r_c0 (pc' := 22) rfl rfl ?_
    exact r_rz rfl (by omega) (po_I hs104 ⟨by decide, by decide⟩ ⟨rfl, by omega, by omega, (by first | (intro h; exfalso; omega) | (intro h; exact ⟨by have q := (hgo.g0 _).mpr ((hpb (by omega)).2.1 rfl); rw [hm, hT] at q; exact q, (hpb (by omega)).2.2⟩))⟩)
/-- Mover twistAlong -/
abbrev S_27t (n : Nat) : mS := [(n, n, 0, 17), (104, 121, 0, 17)]
abbrev E_27t (t : Nat) (n : Nat) (a2 : Int) (a3 : Int) (z0 w0 : mZ) (x y tx it mt tt ct : Option Nat) : Int → mZ → mZ → mP → Prop := fun v z w p => p = (pq x y tx it mt tt ct) ∧ 0 ≤ v ∧ v ≤ 1 ∧ ((v = 1 → FTt z0 t (w n) ∧ ∀ e : Nat, e < 18 → 0 ≤ w n e ∧ w n e ≤ 100000000000000))
theorem m_27t {d : Nat} {z0 w0 : mZ} {x y tx it mt tt ct : Option Nat} (t : Nat) (n : Nat) (a2 : Int) (a3 : Int) (hz : rz z0) (hw : rw_ w0) (ha2 : 0 ≤ a2 ∧ a2 ≤ 7) (ha3 : (-99) ≤ a3 ∧ a3 ≤ 99) (ht : isT t) (hnb : ∀ e : Nat, e < 18 → 0 ≤ w0 n e ∧ w0 n e ≤ 100000000000000) (hft : FTt z0 t (w0 n)) (hgr : GRt z0 z0 t a2.toNat) (hkd : z0 (17 + 2 * a2.toNat) 0 = 2) (hn : lr n) (b15n : 15 ≤ n) (wn : wrr n) (mn : 149 ≤ n ∧ n ≤ 157) : wc (d + 4) 27 [.ref 10, .ref n, .int (Int32.ofInt a2), .int (Int32.ofInt a3), .ref 102] (mk z0 w0 (pq x y tx it mt tt ct)) (poI (S_27t n) z0 w0 (E_27t t n a2 a3 z0 w0 x y tx it mt tt ct)) := by
  have hst : st_ (S_27t n) z0 w0 z0 w0 := st_rf hz hw
  have htb : 159 ≤ t ∧ t ≤ 192 := by have := ht; unfold isT at this; omega
  obtain ⟨G, hgo, htw1, htw2, ga, gb, ge, gf, gae, gaf, gbe, gbf, gef⟩ := hgr hkd
  obtain ⟨m, hm⟩ : ∃ m, m = (z0 t 0).toNat := ⟨_, rfl⟩
  obtain ⟨T, hT⟩ : ∃ T, T = vT (z0 (t + 1)) := ⟨_, rfl⟩
  rw [← hm, ← hT] at hgo
  have hr1 := rd_R_1 (k := a2.toNat) (by omega) hz
  have hr2 := rd_R_2 (k := a2.toNat) (by omega) hz
  have hr3 := rd_R_3 (k := a2.toNat) (by omega) hz
  have hr4 := rd_R_4 (k := a2.toNat) (by omega) hz
  have hr5 := rd_R_5 (k := a2.toNat) (by omega) hz
  have key : ∀ N : Nat, (∀ (x6 x7 x8 : Int) (z w : mZ), 0 ≤ x6 ∧ x6 ≤ 17 → 0 ≤ x7 ∧ x7 ≤ 17 → 0 ≤ x8 ∧ x8 ≤ 99 → st_ (S_27t n) z0 w0 z w → (G (z0 (17 + 2 * a2.toNat) 1).toNat (w n)) → (∀ e : Nat, e < 18 → 0 ≤ w n e ∧ w n e ≤ 100000000000000) → ((0 < a3 → x6 = z0 (17 + 2 * a2.toNat) 5 ∧ x7 = z0 (17 + 2 * a2.toNat) 4) ∧ (a3 ≤ 0 → x6 = z0 (17 + 2 * a2.toNat) 4 ∧ x7 = z0 (17 + 2 * a2.toNat) 5)) → 65 * (99 - x8) + 32 < (N : Int) → wp_ (d + 3) 27 9 (some .boolean) (64, [(0, .ref 10), (1, .ref n), (3, .int (Int32.ofInt a3)), (4, .ref 102), (5, .ref (17 + 2 * a2.toNat)), (6, .int (Int32.ofInt x6)), (7, .int (Int32.ofInt x7)), (8, .int (Int32.ofInt x8))], [], mk z w (pq x y tx it mt tt ct)) (poI (S_27t n) z0 w0 (E_27t t n a2 a3 z0 w0 x y tx it mt tt ct))) := by
    intro N
    induction N with
    | zero =>
      intro x6 x7 x8 z w
      intros; exfalso; omega
    | succ N ih =>
      have ih0 := ih; clear ih
      intro x6 x7 x8 z w  hx6 hx7 hx8 hst as1 as2 as3 hM
      have grf : z (18 + 2 * a2.toNat) = z0 (18 + 2 * a2.toNat) := funext fun i => hst.2.2.1 _ _ (notS_c (by omega) (notS_c (by omega) (notS_n)))
      have gr1 : z (17 + 2 * a2.toNat) 1 = z0 (17 + 2 * a2.toNat) 1 := hst.2.2.1 _ _ (notS_c (by omega) (notS_c (by omega) (notS_n)))
      refine r_ld (pc' := 66) rfl rfl rfl rfl ?_
      refine r_ld (pc' := 67) rfl rfl rfl rfl ?_
      refine r_cSI (pc' := 70) rfl rfl rfl rfl rfl (m_259 (d := d + 2) a3 hst.1 hst.2.1 ⟨by omega, by omega⟩) (fun v57 z58 w59 p60 h61 hs62 hE63 => ?_)
      obtain ⟨rfl, rfl, rfl, hE63⟩ := hE63
      refine r_ige (pc' := 73) rfl rfl ⟨by omega, by omega⟩ ⟨by omega, by omega⟩ (fun hc65 => ?_) (fun hc65 => ?_)
      · skip
        refine r_ld (pc' := 119) rfl rfl rfl rfl ?_
        refine r_ld (pc' := 120) rfl rfl rfl rfl ?_
        refine r_ld (pc' := 122) rfl rfl rfl rfl ?_
        refine r_c0 (pc' := 123) rfl rfl ?_
        refine r_ld (pc' := 125) rfl rfl rfl rfl ?_
        have hb66 := rd_R_1 (k := a2.toNat) (by omega) hz
        have hf67 : z (17 + 2 * a2.toNat) 1 = z0 (17 + 2 * a2.toNat) 1 := (hst.2.2.1 _ _ (notS_c (by omega) (notS_c (by omega) notS_n)))
        have hF68 : z (18 + 2 * a2.toNat) = z0 (18 + 2 * a2.toNat) := (funext fun _ => hst.2.2.1 _ _ (notS_c (by omega) (notS_c (by omega) notS_n)))
        refine r_cVI (pc' := 128) rfl rfl rfl rfl rfl sh_10 (m_28t (d := d) m T G n a2.toNat 1 hst.1 hst.2.1 ⟨by omega, by omega⟩ (by first | omega | assumption | (simp only [hF68, hf67]; assumption)) (by exact as2) (by rw [grf, gr1]; exact hgo) (by exact ⟨fun h => absurd h (by omega), fun _ => by rw [gr1]; exact as1⟩) hn (by first | omega | assumption | (simp only [hF68, hf67]; assumption)) wn (by first | omega | assumption | (simp only [hF68, hf67]; assumption))) (fun v69 z70 w71 p72 h73 hs74 hE75 => ?_)
        have hs76 := st_tr hst hs74 (subS_c (fun _ _ _ _ _ _ => inS_0 (by omega) (by omega) (by omega) (by omega)) (subS_c (fun _ _ _ _ _ _ => inS_s (inS_0 (by omega) (by omega) (by omega) (by omega))) subS_n))
        obtain ⟨rfl, hE75⟩ := hE75
        have hpb := hE75.2.2
        exact r_rz rfl (by omega) (po_I hs76 ⟨by omega, by omega⟩ ⟨rfl, by omega, by omega, (by first | (intro h; exfalso; omega) | (intro h; exact ⟨by have q := (hgo.g0 _).mpr ((hpb (by omega)).2.1 rfl); rw [hm, hT] at q; exact q, (hpb (by omega)).2.2⟩))⟩)
      · skip
        refine r_ld (pc' := 74) rfl rfl rfl rfl ?_
        refine r_ld (pc' := 75) rfl rfl rfl rfl ?_
        refine r_ld (pc' := 77) rfl rfl rfl rfl ?_
        refine r_ld (pc' := 79) rfl rfl rfl rfl ?_
        have hb77 := rd_R_2 (k := a2.toNat) (by omega) hz
        refine r_gi (pc' := 82) rfl rfl (sh_R (k := a2.toNat) (by omega)) rfl (hst.2.2.1 _ _ (notS_c (by omega) (notS_c (by omega) notS_n))) ?_
        refine r_ld (pc' := 84) rfl rfl rfl rfl ?_
        have hb78 := rd_R_3 (k := a2.toNat) (by omega) hz
        refine r_gi (pc' := 87) rfl rfl (sh_R (k := a2.toNat) (by omega)) rfl (hst.2.2.1 _ _ (notS_c (by omega) (notS_c (by omega) notS_n))) ?_
        refine r_ld (pc' := 89) rfl rfl rfl rfl ?_
        refine r_ld (pc' := 91) rfl rfl rfl rfl ?_
        refine r_ld (pc' := 93) rfl rfl rfl rfl ?_
        refine r_cVI (pc' := 96) rfl rfl rfl rfl rfl sh_10 (m_29t (d := d + 1) n x7 (z0 (17 + 2 * a2.toNat) 2) (z0 (17 + 2 * a2.toNat) 3) x6 x6 hst.1 hst.2.1 ⟨by omega, by omega⟩ ⟨by omega, by omega⟩ ⟨by omega, by omega⟩ ⟨by omega, by omega⟩ ⟨by omega, by omega⟩ (by exact as2) hn (by first | omega | assumption) wn (by first | omega | assumption)) (fun v79 z80 w81 p82 h83 hs84 hE85 => ?_)
        have hs86 := st_tr hst hs84 (subS_c (fun _ _ _ _ _ _ => inS_0 (by omega) (by omega) (by omega) (by omega)) (subS_c (fun _ _ _ _ _ _ => inS_s (inS_0 (by omega) (by omega) (by omega) (by omega))) subS_n))
        obtain ⟨rfl, hE85⟩ := hE85
        have hch := hE85.2.2
        refine r_zne (pc' := 99) rfl rfl ⟨by omega, by omega⟩ (fun hc87 => ?_) (fun hc87 => ?_)
        · skip
          refine r_ld (pc' := 102) rfl rfl rfl rfl ?_
          refine r_ld (pc' := 103) rfl rfl rfl rfl ?_
          refine r_ld (pc' := 105) rfl rfl rfl rfl ?_
          refine r_ld (pc' := 107) rfl rfl rfl rfl ?_
          refine r_ld (pc' := 109) rfl rfl rfl rfl ?_
          refine r_cVV (pc' := 112) rfl rfl rfl rfl rfl sh_10 (m_30t (d := d + 1) n x6 x7 hs86.1 hs86.2.1 ⟨by omega, by omega⟩ ⟨by omega, by omega⟩ hn (by first | omega | assumption) wn (by first | omega | assumption)) (fun z89 w90 p91 hs93 hE94 => ?_)
          have hs95 := st_tr hs86 hs93 (subS_c (fun _ _ _ _ _ _ => inS_0 (by omega) (by omega) (by omega) (by omega)) (subS_c (fun _ _ _ _ _ _ => inS_s (inS_0 (by omega) (by omega) (by omega) (by omega))) subS_n))
          obtain ⟨rfl, hE94⟩ := hE94
          have hex := hE94
          have htw := tw_of (n := w n) (by omega) hch.1 hex
          have hgt : G (z0 (17 + 2 * a2.toNat) 1).toNat (w90 n) := by rw [htw]; (rcases (show 0 < a3 ∨ a3 ≤ 0 by omega) with q | q; (rw [(as3.1 q).1, (as3.1 q).2]; exact htw1 _ as1); (rw [(as3.2 q).1, (as3.2 q).2]; exact htw2 _ as1))
          refine r_inc (pc' := 115) (lv' := [(0, _), (1, _), (3, _), (4, _), (5, _), (6, _), (7, _)]) rfl rfl rfl rfl rfl ?_
          refine r_go rfl ?_
          exact w_lv (sub_c rfl (sub_c rfl (sub_c rfl (sub_c rfl (sub_c rfl (sub_c rfl (sub_c rfl (sub_c rfl sub_n)))))))) rfl (ih0 x6 x7 (x8 + 1) z89 w90 ⟨by omega, by omega⟩ ⟨by omega, by omega⟩ ⟨by omega, by omega⟩ hs95 (by first | exact (hpf (by omega)).1 rfl | exact hgt) (by first | exact (hpf (by omega)).2.2 | exact nb_ex (by omega) (by omega) (fun j hj => by by_cases c : j = x7.toNat; (subst c; exact hch.2 (by omega)); (rw [hch.1, fl_ne c]; exact (as2 j hj).2)) hex (hgo.nn _ _ (by omega) hgt)) (by first | omega | assumption) (by omega))
        · skip
          refine r_c0 (pc' := 100) rfl rfl ?_
          exact r_rz rfl (by omega) (po_I hs86 ⟨by decide, by decide⟩ ⟨rfl, by omega, by omega, (by first | (intro h; exfalso; omega) | (intro h; exact ⟨by have q := (hgo.g0 _).mpr ((hpb (by omega)).2.1 rfl); rw [hm, hT] at q; exact q, (hpb (by omega)).2.2⟩))⟩)
  refine w_m rfl rfl ?_
  refine r_ld (pc' := 1) rfl rfl rfl rfl ?_
  refine r_gr (b := 16) (pc' := 4) rfl rfl sh_10 rfl pp_10_1 ?_
  refine r_ld (pc' := 5) rfl rfl rfl rfl ?_
  refine r_aa (b := 17 + 2 * a2.toNat) (pc' := 6) rfl rfl sh_16 (Or.inr (Or.inr rfl)) rfl (by omega) (by omega) (pa_16 (by omega)) ?_
  refine r_st (pc' := 8) (lv' := [(5, _), (0, _), (1, _), (2, _), (3, _), (4, _)]) rfl rfl rfl rfl ?_
  refine r_ld (pc' := 9) rfl rfl rfl rfl ?_
  refine r_ld (pc' := 10) rfl rfl rfl rfl ?_
  refine r_ld (pc' := 12) rfl rfl rfl rfl ?_
  refine r_c0 (pc' := 13) rfl rfl ?_
  refine r_ld (pc' := 15) rfl rfl rfl rfl ?_
  have hb96 := rd_R_1 (k := a2.toNat) (by omega) hz
  refine r_cVI (pc' := 18) rfl rfl rfl rfl rfl sh_10 (m_28t (d := d) m T G n a2.toNat 0 hst.1 hst.2.1 ⟨by omega, by omega⟩ (by first | omega | assumption) (by exact hnb) (by exact hgo) (by exact ⟨fun _ => (hgo.g0 _).mp (by rw [hm, hT]; exact hft), fun h => absurd h (by omega)⟩) hn (by first | omega | assumption) wn (by first | omega | assumption)) (fun v97 z98 w99 p100 h101 hs102 hE103 => ?_)
  have hs104 := st_tr hst hs102 (subS_c (fun _ _ _ _ _ _ => inS_0 (by omega) (by omega) (by omega) (by omega)) (subS_c (fun _ _ _ _ _ _ => inS_s (inS_0 (by omega) (by omega) (by omega) (by omega))) subS_n))
  obtain ⟨rfl, hE103⟩ := hE103
  have hpf := hE103.2.2
  refine r_zne (pc' := 21) rfl rfl ⟨by omega, by omega⟩ (fun hc105 => ?_) (fun hc105 => ?_)
  · skip
    refine r_ld (pc' := 24) rfl rfl rfl rfl ?_
    refine r_zle (pc' := 27) rfl rfl ⟨by omega, by omega⟩ (fun hc106 => ?_) (fun hc106 => ?_)
    · skip
      refine r_ld (pc' := 37) rfl rfl rfl rfl ?_
      have hb107 := rd_R_4 (k := a2.toNat) (by omega) hz
      refine r_gi (pc' := 40) rfl rfl (sh_R (k := a2.toNat) (by omega)) rfl (hs102.2.2.1 _ _ (notS_c (by omega) (notS_c (by omega) notS_n))) ?_
      refine r_st (pc' := 42) (lv' := [(6, _), (5, _), (0, _), (1, _), (2, _), (3, _), (4, _)]) rfl rfl rfl rfl ?_
      refine r_ld (pc' := 43) rfl rfl rfl rfl ?_
      refine r_zle (pc' := 46) rfl rfl ⟨by omega, by omega⟩ (fun hc108 => ?_) (fun hc108 => ?_)
      · skip
        refine r_ld (pc' := 56) rfl rfl rfl rfl ?_
        have hb109 := rd_R_5 (k := a2.toNat) (by omega) hz
        refine r_gi (pc' := 59) rfl rfl (sh_R (k := a2.toNat) (by omega)) rfl (hs102.2.2.1 _ _ (notS_c (by omega) (notS_c (by omega) notS_n))) ?_
        refine r_st (pc' := 61) (lv' := [(7, _), (6, _), (5, _), (0, _), (1, _), (2, _), (3, _), (4, _)]) rfl rfl rfl rfl ?_
        refine r_c0 (pc' := 62) rfl rfl ?_
        refine r_st (pc' := 64) (lv' := [(8, _), (7, _), (6, _), (5, _), (0, _), (1, _), (2, _), (3, _), (4, _)]) rfl rfl rfl rfl ?_
        exact w_lv (sub_c rfl (sub_c rfl (sub_c rfl (sub_c rfl (sub_c rfl (sub_c rfl (sub_c rfl (sub_c rfl sub_n)))))))) rfl ((key ((65 * (99 - 0) + 32 : Int).toNat + 1)) (z0 (17 + 2 * a2.toNat) 4) (z0 (17 + 2 * a2.toNat) 5) 0 z98 w99 ⟨by omega, by omega⟩ ⟨by omega, by omega⟩ ⟨by omega, by omega⟩ hs104 (by first | exact (hpf (by omega)).1 rfl | exact hgt) (by first | exact (hpf (by omega)).2.2 | exact nb_ex (by omega) (by omega) (fun j hj => by by_cases c : j = x7.toNat; (subst c; exact hch.2 (by omega)); (rw [hch.1, fl_ne c]; exact (as2 j hj).2)) hex (hgo.nn _ _ (by omega) hgt)) (by first | omega | assumption) (by omega))
      · exfalso; omega
    · skip
      refine r_ld (pc' := 29) rfl rfl rfl rfl ?_
      have hb110 := rd_R_5 (k := a2.toNat) (by omega) hz
      refine r_gi (pc' := 32) rfl rfl (sh_R (k := a2.toNat) (by omega)) rfl (hs102.2.2.1 _ _ (notS_c (by omega) (notS_c (by omega) notS_n))) ?_
      refine r_go rfl ?_
      refine r_st (pc' := 42) (lv' := [(6, _), (5, _), (0, _), (1, _), (2, _), (3, _), (4, _)]) rfl rfl rfl rfl ?_
      refine r_ld (pc' := 43) rfl rfl rfl rfl ?_
      refine r_zle (pc' := 46) rfl rfl ⟨by omega, by omega⟩ (fun hc111 => ?_) (fun hc111 => ?_)
      · exfalso; omega
      · skip
        refine r_ld (pc' := 48) rfl rfl rfl rfl ?_
        have hb112 := rd_R_4 (k := a2.toNat) (by omega) hz
        refine r_gi (pc' := 51) rfl rfl (sh_R (k := a2.toNat) (by omega)) rfl (hs102.2.2.1 _ _ (notS_c (by omega) (notS_c (by omega) notS_n))) ?_
        refine r_go rfl ?_
        refine r_st (pc' := 61) (lv' := [(7, _), (6, _), (5, _), (0, _), (1, _), (2, _), (3, _), (4, _)]) rfl rfl rfl rfl ?_
        refine r_c0 (pc' := 62) rfl rfl ?_
        refine r_st (pc' := 64) (lv' := [(8, _), (7, _), (6, _), (5, _), (0, _), (1, _), (2, _), (3, _), (4, _)]) rfl rfl rfl rfl ?_
        exact w_lv (sub_c rfl (sub_c rfl (sub_c rfl (sub_c rfl (sub_c rfl (sub_c rfl (sub_c rfl (sub_c rfl sub_n)))))))) rfl ((key ((65 * (99 - 0) + 32 : Int).toNat + 1)) (z0 (17 + 2 * a2.toNat) 5) (z0 (17 + 2 * a2.toNat) 4) 0 z98 w99 ⟨by omega, by omega⟩ ⟨by omega, by omega⟩ ⟨by omega, by omega⟩ hs104 (by first | exact (hpf (by omega)).1 rfl | exact hgt) (by first | exact (hpf (by omega)).2.2 | exact nb_ex (by omega) (by omega) (fun j hj => by by_cases c : j = x7.toNat; (subst c; exact hch.2 (by omega)); (rw [hch.1, fl_ne c]; exact (as2 j hj).2)) hex (hgo.nn _ _ (by omega) hgt)) (by first | omega | assumption) (by omega))
  · skip
    refine r_c0 (pc' := 22) rfl rfl ?_
    exact r_rz rfl (by omega) (po_I hs104 ⟨by decide, by decide⟩ ⟨rfl, by omega, by omega, (by first | (intro h; exfalso; omega) | (intro h; exact ⟨by have q := (hgo.g0 _).mpr ((hpb (by omega)).2.1 rfl); rw [hm, hT] at q; exact q, (hpb (by omega)).2.2⟩))⟩)
